/** Promises 14 to 25: asking what there is. */
public final class AskingTest {
    public static void main(String[] args) {
        counts();
        ofLot();
        ofOrder();
        reserved();
        ofTransport();
        route();
        hasPolicy();
        Check.end();
    }

    private static Granary some() {
        Granary g = new Granary();
        g.addItem(10, 5, 1);
        g.addItem(20, 7, 1);
        g.addSite(100);
        g.addSite(100);
        g.addSite(100);
        g.setRoute(1, 2, 4);
        g.receive(0, 0, 8, 9);
        g.receive(1, 1, 30, 12);
        g.order(1, 1, 12, 3, 2, 1);
        g.send(1, 1, 2, 11);
        return g;
    }

    private static void counts() {
        Granary g = some();
        Check.same("14 day", g.day(), 0);
        Check.same("15 items", g.items(), 2);
        Check.same("16 sites", g.sites(), 3);
        Check.same("17 lots", g.lots(), 2);
        Check.same("18 orders", g.orders(), 1);
        Check.same("19 transports", g.transports(), 1);
        g.order(0, 0, 1, 0, 0, 0);
        g.order(0, 0, 1, 0, 0, 0);
        g.cancel(1);
        g.ship(2);
        g.pass(4);
        Check.same("14 day", g.day(), 4);
        Check.same("17 lots, with what arrived", g.lots(), 3);
        Check.same("18 orders, all states together", g.orders(), 3);
        Check.same("19 transports, arrived as well", g.transports(), 1);
    }

    private static void ofLot() {
        Granary g = some();
        int[] due = {1, 1, 19, 12, 12};
        for (int what = 0; what <= 4; what++) {
            Check.same("20 ofLot " + what, g.ofLot(1, what), due[what]);
        }
        Check.same("20 another lot", g.ofLot(0, 2), 8);
        Check.noIndex("20 lot", g, () -> g.ofLot(-1, 0));
        Check.noIndex("20 lot, and what", g, () -> g.ofLot(2, 5));
        Check.noArgument("20 what", g, () -> g.ofLot(1, 5));
        Check.noArgument("20 what", g, () -> g.ofLot(1, -1));
        Granary none = new Granary();
        Check.noIndex("20 without lots", none, () -> none.ofLot(0, 0));
    }

    private static void ofOrder() {
        Granary g = some();
        g.pass(2);
        int[] due = {0, 12, 12, 3, -1};
        int[] then = {1, 12, 0, 3, 3};
        for (int what = 0; what <= 4; what++) {
            Check.same("21 ofOrder " + what, g.ofOrder(0, what), due[what]);
        }
        g.pass(5);
        for (int what = 0; what <= 4; what++) {
            Check.same("21 shipped, ofOrder " + what, g.ofOrder(0, what), then[what]);
        }
        Check.noIndex("21 order", g, () -> g.ofOrder(-1, 0));
        Check.noIndex("21 order, and what", g, () -> g.ofOrder(1, -1));
        Check.noArgument("21 what", g, () -> g.ofOrder(0, 5));
        Check.noArgument("21 what", g, () -> g.ofOrder(0, -1));
    }

    private static void reserved() {
        Granary g = some();
        Check.same("22 reserved", g.reserved(0, 1), 12);
        Check.same("22 of another lot", g.reserved(0, 0), 0);
        Check.noIndex("22 order", g, () -> g.reserved(1, 0));
        Check.noIndex("22 order", g, () -> g.reserved(-1, 0));
        Check.noIndex("22 lot", g, () -> g.reserved(0, 2));
        Check.noIndex("22 lot", g, () -> g.reserved(0, -1));
        g.order(1, 1, 9, 0, 0, 0);
        Check.same("22 another order", g.reserved(1, 1), 7);
        g.cancel(0);
        Check.same("22 cancelled", g.reserved(0, 1), 0);
        Check.same("22 the other one", g.reserved(1, 1), 7);
        g.pass(13);
        Check.same("22 shipped, or wasted", g.reserved(1, 1), 0);
    }

    private static void ofTransport() {
        Granary g = some();
        int[] due = {1, 2, 11, 4, 12, 1};
        for (int what = 0; what <= 5; what++) {
            Check.same("23 ofTransport " + what, g.ofTransport(0, what), due[what]);
        }
        g.pass(3);
        Check.same("23 a day ahead", g.ofTransport(0, 5), 1);
        g.pass(1);
        Check.same("23 arrived", g.ofTransport(0, 5), 0);
        Check.same("23 its units as it was made", g.ofTransport(0, 2), 11);
        Check.noIndex("23 transport", g, () -> g.ofTransport(1, 0));
        Check.noIndex("23 transport, and what", g, () -> g.ofTransport(-1, 6));
        Check.noArgument("23 what", g, () -> g.ofTransport(0, 6));
        Check.noArgument("23 what", g, () -> g.ofTransport(0, -1));
    }

    private static void route() {
        Granary g = some();
        Check.same("24 route", g.route(1, 2), 4);
        Check.same("24 the other way", g.route(2, 1), 0);
        Check.same("24 none", g.route(0, 1), 0);
        Check.same("24 itself", g.route(1, 1), 0);
        Check.noIndex("24 from", g, () -> g.route(3, 0));
        Check.noIndex("24 from", g, () -> g.route(-1, 0));
        Check.noIndex("24 to", g, () -> g.route(0, 3));
        Check.noIndex("24 to", g, () -> g.route(0, -1));
    }

    private static void hasPolicy() {
        Granary g = some();
        g.setPolicy(1, 2, 0, 0, 1, 0);
        Check.same("25 hasPolicy", g.hasPolicy(1, 2), true);
        Check.same("25 another item", g.hasPolicy(0, 2), false);
        Check.same("25 another site", g.hasPolicy(1, 1), false);
        g.setRoute(1, 2, 0);
        Check.same("25 gone with its route", g.hasPolicy(1, 2), false);
        Check.noIndex("25 item", g, () -> g.hasPolicy(2, 0));
        Check.noIndex("25 item", g, () -> g.hasPolicy(-1, 0));
        Check.noIndex("25 site", g, () -> g.hasPolicy(0, 3));
        Check.noIndex("25 site", g, () -> g.hasPolicy(0, -1));
    }
}
