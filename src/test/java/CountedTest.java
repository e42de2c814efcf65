/** Promises 33 to 37, and section 6: what was counted. */
public final class CountedTest {
    public static void main(String[] args) {
        account();
        rate();
        pointFor();
        classOf();
        classOfAtTheEdges();
        punctuality();
        Check.end();
    }

    private static Granary oneOfEach() {
        Granary g = new Granary();
        g.addItem(10, 5, 1);
        g.addSite(500);
        return g;
    }

    private static void account() {
        Granary g = oneOfEach();
        for (int what : new int[] {-1, 5, Integer.MIN_VALUE, Integer.MAX_VALUE}) {
            Check.noArgument("33 what", g, () -> g.account(what));
        }
        g.receive(0, 0, 20, 1);
        g.order(0, 0, 7, 1, 0, 0);
        g.order(0, 0, 30, 2, 0, 0);
        g.setPolicy(0, 0, 0, 3, -1, 2);
        g.pass(1);
        Check.same("33 holding", g.account(0), 13 * 5);
        Check.same("33 waste", g.account(1), 0);
        Check.same("33 shortage", g.account(2), 0);
        Check.same("33 spent", g.account(3), 100 + (3 + 30 - 13) * 5);
        Check.same("33 earned", g.account(4), 70);
        g.pass(1);
        Check.same("33 holding", g.account(0), 65);
        Check.same("33 waste", g.account(1), 65);
        Check.same("33 shortage", g.account(2), 30);
        Check.same("33 spent", g.account(3), 200 + 13 * 5);
        Check.same("33 earned", g.account(4), 70);
    }

    private static void rate() {
        Granary g = oneOfEach();
        g.addItem(10, 5, 1);
        g.addSite(500);
        g.order(0, 0, 1, 0, 0, 0);
        g.order(0, 0, 10, 2, 0, 0);
        g.order(0, 0, 20, 3, 0, 0);
        g.order(0, 0, 40, 4, 0, 0);
        g.order(1, 0, 50, 3, 0, 0);
        g.order(0, 1, 60, 3, 0, 0);
        g.order(0, 0, 70, 3, 0, 0);
        Check.same("34 of those due later nothing", g.rate(0, 0, 60), 1);
        g.pass(3);
        g.cancel(6);
        Check.same("34 the DAY alone", g.rate(0, 0, 1), 20);
        Check.same("34 two days", g.rate(0, 0, 2), 30);
        Check.same("34 three days", g.rate(0, 0, 3), 30);
        Check.same("34 days below 0 have none", g.rate(0, 0, 60), 31);
        Check.same("34 another item", g.rate(1, 0, 7), 50);
        Check.same("34 another site", g.rate(0, 1, 7), 60);
        g.receive(0, 0, 20, 0);
        g.reserveAnew();
        g.ship(0);
        Check.same("34 shipped ones count", g.rate(0, 0, 60), 31);
        Check.noArgument("34 days", g, () -> g.rate(0, 0, 0));
        Check.noArgument("34 days", g, () -> g.rate(0, 0, 61));
        Check.noIndex("34 item", g, () -> g.rate(2, 0, 0));
        Check.noIndex("34 item", g, () -> g.rate(-1, 0, 1));
        Check.noIndex("34 site", g, () -> g.rate(0, 2, 61));
        Check.noIndex("34 site", g, () -> g.rate(0, -1, 1));
    }

    private static void pointFor() {
        Granary g = oneOfEach();
        int[] use = {50, 7, 0, 9, 8, 1, 12, 3};
        for (int day = 0; day < use.length; day++) {
            if (use[day] > 0) {
                g.order(0, 0, use[day], day, 0, 0);
            }
        }
        g.pass(6);
        Check.same("35 of one day", g.pointFor(0, 0, 6, 1), 12);
        Check.same("35 of two days", g.pointFor(0, 0, 6, 2), 17);
        Check.same("35 of three days", g.pointFor(0, 0, 6, 3), 21);
        Check.same("35 of four days", g.pointFor(0, 0, 6, 4), 30);
        Check.same("35 of all of them", g.pointFor(0, 0, 6, 6), 37);
        Check.same("35 the first day of them counts", g.pointFor(0, 0, 7, 2), 57);
        Check.same("35 days below 0", g.pointFor(0, 0, 60, 60), 87);
        Check.same("35 the DAY alone", g.pointFor(0, 0, 1, 1), 12);
        Check.same("35 nothing", oneOfEach().pointFor(0, 0, 60, 30), 0);
        Check.noArgument("35 days", g, () -> g.pointFor(0, 0, 0, 1));
        Check.noArgument("35 days", g, () -> g.pointFor(0, 0, 61, 1));
        Check.noArgument("35 bridged", g, () -> g.pointFor(0, 0, 5, 0));
        Check.noArgument("35 bridged", g, () -> g.pointFor(0, 0, 5, 6));
        Check.noArgument("35 days", g, () -> g.pointFor(0, 0, Integer.MIN_VALUE, Integer.MIN_VALUE));
        Check.noIndex("35 item", g, () -> g.pointFor(1, 0, 0, 0));
        Check.noIndex("35 item", g, () -> g.pointFor(-1, 0, 1, 1));
        Check.noIndex("35 site", g, () -> g.pointFor(0, 1, 1, 1));
        Check.noIndex("35 site", g, () -> g.pointFor(0, -1, 1, 1));
    }

    /** Ships units of an item with the price 1, so that twice as much is earned by it. */
    private static void earn(Granary g, int item, int units) {
        g.receive(item, 0, units, 9);
        g.ship(g.order(item, 0, units, 0, 0, 0));
    }

    private static Granary itemsThatEarn(int... units) {
        Granary g = new Granary();
        g.addSite(9999);
        for (int item = 0; item < units.length; item++) {
            g.addItem(10, 1, 1);
            if (units[item] > 0) {
                earn(g, item, units[item]);
            }
        }
        return g;
    }

    private static void classes(Granary g, int... due) {
        for (int item = 0; item < due.length; item++) {
            Check.same("36 classOf " + item, g.classOf(item), due[item]);
        }
    }

    private static void classOf() {
        Granary g = itemsThatEarn(0, 0);
        classes(g, 2, 2);
        Check.noIndex("36 item", g, () -> g.classOf(2));
        Check.noIndex("36 item", g, () -> g.classOf(-1));
        earn(g, 1, 1);
        classes(g, 2, 0);
        classes(itemsThatEarn(5, 75, 14, 6), 2, 0, 0, 1);
        classes(itemsThatEarn(9, 1), 0, 1);
        classes(itemsThatEarn(10, 10, 10, 10, 10), 0, 0, 0, 0, 1);
    }

    private static void classOfAtTheEdges() {
        classes(itemsThatEarn(80, 20), 0, 1);
        classes(itemsThatEarn(79, 21), 0, 0);
        classes(itemsThatEarn(80, 15, 5), 0, 1, 2);
        classes(itemsThatEarn(80, 14, 6), 0, 1, 1);
        classes(itemsThatEarn(5, 5, 90), 1, 2, 0);
        classes(itemsThatEarn(0, 1, 0), 2, 0, 2);
    }

    private static void punctuality() {
        Granary g = oneOfEach();
        Check.same("37 without any", g.punctuality(), 1.0);
        g.order(0, 0, 1, 1, 0, 0);
        g.order(0, 0, 1, 3, 0, 0);
        g.order(0, 0, 1, 5, 0, 0);
        g.order(0, 0, 1, 1, 9, 20);
        g.cancel(3);
        g.pass(2);
        Check.same("37 none is shipped", g.punctuality(), 1.0);
        g.receive(0, 0, 9, 9);
        g.pass(1);
        Check.same("37 one late, one on its day", g.punctuality(), 0.5);
        g.ship(2);
        Check.same("37 one ahead of it", g.punctuality(), 2.0 / 3.0);
        Granary late = oneOfEach();
        late.order(0, 0, 1, 0, 0, 0);
        late.pass(1);
        late.receive(0, 0, 1, 9);
        late.reserveAnew();
        late.ship(0);
        Check.same("37 all late", late.punctuality(), 0.0);
    }
}
