/** Promises 7 to 10, and section 2: orders, what is reserved for them, shipping at once. */
public final class OrdersTest {
    public static void main(String[] args) {
        order();
        orderUpToTheLimit();
        suits();
        suitsByTheDay();
        takesInOrder();
        cancel();
        reserveAnew();
        reserveAnewByDueAndNumber();
        ship();
        Check.end();
    }

    private static Granary oneOfEach() {
        Granary g = new Granary();
        g.addItem(10, 5, 1);
        g.addSite(500);
        return g;
    }

    private static void order() {
        Granary g = oneOfEach();
        Check.noIndex("7 item", g, () -> g.order(1, 0, 1, 0, 0, 0));
        Check.noIndex("7 item", g, () -> g.order(-1, 0, 1, 0, 0, 0));
        Check.noIndex("7 site", g, () -> g.order(0, 1, 1, 0, 0, 0));
        Check.noIndex("7 site, and units", g, () -> g.order(0, -1, 0, 0, 0, 0));
        int[][] bad = {{0, 0, 0, 0}, {100, 0, 0, 0}, {1, -1, 0, 0}, {1, 61, 0, 0}, {1, 0, -1, 0}, {1, 0, 10, 0},
            {1, 0, 0, -1}, {1, 0, 0, 21}, {Integer.MIN_VALUE, 0, 0, 0}, {1, Integer.MAX_VALUE, 0, 0}};
        for (int[] b : bad) {
            Check.noArgument("7 order", g, () -> g.order(0, 0, b[0], b[1], b[2], b[3]));
        }
        Check.same("7 order", g.order(0, 0, 99, 60, 9, 20), 0);
        Check.same("7 order", g.order(0, 0, 1, 0, 0, 0), 1);
        g.pass(2);
        Check.same("7 order", g.order(0, 0, 1, 3, 0, 0), 2);
        Check.same("7 due day", g.ofOrder(2, 3), 5);
    }

    private static void orderUpToTheLimit() {
        Granary g = oneOfEach();
        for (int order = 0; order < 60; order++) {
            Check.same("7 order", g.order(0, 0, 1, 5, 0, 0), order);
        }
        g.cancel(0);
        Check.noState("7 the 61st order", g, () -> g.order(0, 0, 1, 5, 0, 0));
        Check.noArgument("7 a wrong 61st order", g, () -> g.order(0, 0, 1, 61, 0, 0));
        Check.same("7 orders", g.orders(), 60);
    }

    private static void suits() {
        Granary g = oneOfEach();
        g.addItem(10, 1, 1);
        g.addSite(500);
        g.receive(0, 0, 10, 5);
        g.receive(1, 0, 10, 9);
        g.receive(0, 1, 10, 9);
        Check.same("7 its last day is one too early", g.ofOrder(g.order(0, 0, 1, 4, 0, 2), 2), 0);
        Check.same("7 its last day is just late enough", g.ofOrder(g.order(0, 0, 1, 4, 0, 1), 2), 1);
        Check.same("7 its last day is the due day", g.ofOrder(g.order(0, 0, 1, 5, 0, 0), 2), 1);
        Check.same("7 another item or site serves nothing", g.ofOrder(g.order(0, 0, 99, 0, 0, 0), 2), 8);
    }

    private static void suitsByTheDay() {
        Granary g = oneOfEach();
        g.order(0, 0, 5, 1, 0, 2);
        g.order(0, 0, 5, 9, 0, 2);
        g.pass(4);
        g.receive(0, 0, 10, 1);
        Check.same("9 below the DAY and the keep", g.reserveAnew(), 0);
        g.receive(0, 0, 10, 2);
        Check.same("9 the DAY counts when it is behind the due day", g.reserveAnew(), 5);
        Check.same("9 reserved", g.reserved(0, 1), 5);
        g.receive(0, 0, 10, 7);
        Check.same("9 the due day counts when it is behind the DAY", g.reserveAnew(), 10);
        Check.same("9 reserved", g.reserved(1, 2), 5);
    }

    private static void takesInOrder() {
        Granary g = oneOfEach();
        g.receive(0, 0, 4, 8);
        g.receive(0, 0, 4, 6);
        g.receive(0, 0, 4, 6);
        g.receive(0, 0, 4, 2);
        g.order(0, 0, 9, 3, 0, 0);
        Check.same("7 the earliest last day, the smallest number", g.reserved(0, 1), 4);
        Check.same("7 then the next number", g.reserved(0, 2), 4);
        Check.same("7 then the next last day", g.reserved(0, 0), 1);
        Check.same("7 none that does not suit", g.reserved(0, 3), 0);
        g.order(0, 0, 9, 3, 0, 0);
        Check.same("7 as many as are free", g.ofOrder(1, 2), 3);
        g.order(0, 0, 2, 3, 0, 0);
        Check.same("7 what is reserved stays", g.ofOrder(2, 2), 0);
    }

    private static void cancel() {
        Granary g = oneOfEach();
        Check.noIndex("8 order", g, () -> g.cancel(0));
        g.receive(0, 0, 7, 9);
        g.receive(0, 0, 7, 5);
        g.order(0, 0, 10, 3, 0, 0);
        g.order(0, 0, 10, 3, 0, 0);
        Check.noIndex("8 order", g, () -> g.cancel(-1));
        Check.noIndex("8 order", g, () -> g.cancel(2));
        Check.same("8 cancel", g.cancel(0), 10);
        Check.same("8 its state", g.ofOrder(0, 0), 2);
        Check.same("8 reserved", g.ofOrder(0, 2), 0);
        Check.same("8 not shipped", g.ofOrder(0, 4), -1);
        Check.same("8 free", g.free(0, 0), 10);
        Check.same("8 the other one gets nothing by that", g.ofOrder(1, 2), 4);
        Check.noState("8 cancelled", g, () -> g.cancel(0));
        g.order(0, 0, 3, 3, 0, 0);
        g.ship(2);
        Check.noState("8 shipped", g, () -> g.cancel(2));
        g.reserveAnew();
        Check.same("8 a cancelled order gets nothing", g.ofOrder(0, 2), 0);
    }

    private static void reserveAnew() {
        Granary g = oneOfEach();
        Check.same("9 without orders", g.reserveAnew(), 0);
        g.receive(0, 0, 10, 9);
        g.order(0, 0, 6, 3, 5, 0);
        g.order(0, 0, 6, 9, 4, 0);
        Check.same("9 ahead", g.ofOrder(0, 2), 6);
        Check.same("9 reserveAnew", g.reserveAnew(), 10);
        Check.same("9 by ranks first", g.ofOrder(1, 2), 6);
        Check.same("9 what is left", g.ofOrder(0, 2), 4);
        g.receive(0, 0, 50, 9);
        Check.same("9 no more than they are for", g.reserveAnew(), 12);
        g.ship(1);
        Check.same("9 none for what is shipped", g.reserveAnew(), 6);
    }

    private static void reserveAnewByDueAndNumber() {
        Granary g = oneOfEach();
        g.order(0, 0, 6, 5, 3, 0);
        g.order(0, 0, 6, 4, 3, 0);
        g.order(0, 0, 6, 4, 3, 0);
        g.receive(0, 0, 8, 9);
        Check.same("9 reserveAnew", g.reserveAnew(), 8);
        Check.same("9 by due days", g.ofOrder(1, 2), 6);
        Check.same("9 by numbers", g.ofOrder(2, 2), 2);
        Check.same("9 the last one", g.ofOrder(0, 2), 0);
    }

    private static void ship() {
        Granary g = oneOfEach();
        Check.noIndex("10 order", g, () -> g.ship(0));
        g.receive(0, 0, 6, 9);
        g.receive(0, 0, 6, 8);
        g.order(0, 0, 9, 5, 0, 0);
        g.order(0, 0, 9, 5, 0, 0);
        Check.noIndex("10 order", g, () -> g.ship(-1));
        Check.noIndex("10 order", g, () -> g.ship(2));
        Check.noState("10 not as many as it is for", g, () -> g.ship(1));
        g.pass(2);
        Check.same("10 ship", g.ship(0), 9);
        Check.same("10 state", g.ofOrder(0, 0), 1);
        Check.same("10 none are reserved then", g.ofOrder(0, 2), 0);
        Check.same("10 its day", g.ofOrder(0, 4), 2);
        Check.same("10 earned", g.account(4), 9 * 5 * 2);
        Check.same("10 taken away", g.ofLot(1, 2), 0);
        Check.same("10 taken away", g.ofLot(0, 2), 3);
        Check.same("10 of the other order", g.ofLot(0, 3), 3);
        Check.noState("10 shipped", g, () -> g.ship(0));
        g.cancel(1);
        Check.noState("10 cancelled", g, () -> g.ship(1));
    }
}
