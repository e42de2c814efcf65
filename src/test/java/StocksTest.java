/** Promises 26 to 32: asking stocks. */
public final class StocksTest {
    public static void main(String[] args) {
        answers();
        position();
        expiring();
        couldTake();
        wrongNumbers();
        Check.end();
    }

    /** Item 0 has 9, 6 and 4 units at site 0, of which 12 are reserved, and 5 under way to site 1. */
    private static Granary some() {
        Granary g = new Granary();
        g.addItem(10, 5, 1);
        g.addItem(20, 7, 1);
        g.addSite(100);
        g.addSite(40);
        g.setRoute(0, 1, 2);
        g.receive(0, 0, 9, 5);
        g.receive(0, 0, 11, 7);
        g.receive(0, 0, 4, 8);
        g.receive(1, 0, 30, 8);
        g.receive(0, 1, 3, 8);
        g.order(0, 0, 12, 3, 0, 0);
        g.setRoute(0, 1, 6);
        g.send(0, 0, 1, 5);
        return g;
    }

    private static void answers() {
        Granary g = some();
        Check.same("26 onHand", g.onHand(0, 0), 19);
        Check.same("26 onHand", g.onHand(1, 0), 30);
        Check.same("26 onHand", g.onHand(0, 1), 3);
        Check.same("26 onHand", g.onHand(1, 1), 0);
        Check.same("27 free", g.free(0, 0), 7);
        Check.same("27 free", g.free(1, 0), 30);
        Check.same("27 free", g.free(0, 1), 3);
        Check.same("28 underWay", g.underWay(0, 1), 5);
        Check.same("28 underWay from there", g.underWay(0, 0), 0);
        Check.same("28 underWay of another item", g.underWay(1, 1), 0);
        Check.same("30 roomLeft", g.roomLeft(0), 100 - 49);
        Check.same("30 roomLeft, without what is under way", g.roomLeft(1), 37);
        g.pass(6);
        Check.same("28 arrived", g.underWay(0, 1), 0);
        Check.same("26 arrived", g.onHand(0, 1), 8);
        Check.same("30 arrived", g.roomLeft(1), 32);
        Check.same("26 shipped", g.onHand(0, 0), 7);
        Check.same("27 shipped", g.free(0, 0), 7);
    }

    private static void position() {
        Granary g = some();
        Check.same("29 position", g.position(0, 0), 19 - 12);
        Check.same("29 with what is under way", g.position(0, 1), 8);
        g.order(0, 1, 20, 9, 0, 0);
        Check.same("29 below 0", g.position(0, 1), 8 - 20);
        Check.same("29 another item", g.position(1, 0), 30);
        g.cancel(1);
        Check.same("29 cancelled", g.position(0, 1), 8);
        g.pass(3);
        Check.same("29 shipped", g.position(0, 0), 7);
    }

    private static void expiring() {
        Granary g = some();
        int[] due = {0, 0, 0, 0, 0, 9, 9, 15, 19};
        for (int days = 0; days <= 8; days++) {
            Check.same("31 expiring " + days, g.expiring(0, 0, days), due[days]);
        }
        g.pass(2);
        Check.same("31 by the DAY", g.expiring(0, 0, 3), 9);
        Check.same("31 all", g.expiring(0, 0, 99), 19);
        Check.same("31 another site", g.expiring(0, 1, 99), 3);
        Check.same("31 another item", g.expiring(1, 0, 6), 30);
        g.pass(3);
        Check.same("31 on its last day, of 12 shipped 9 were of it", g.expiring(0, 0, 0), 0);
        g.receive(0, 0, 2, 0);
        Check.same("31 on its last day", g.expiring(0, 0, 0), 2);
        Check.noArgument("31 days", g, () -> g.expiring(0, 0, -1));
        Check.noArgument("31 days", g, () -> g.expiring(0, 0, 100));
        Check.noIndex("31 site, and days", g, () -> g.expiring(0, 2, 100));
    }

    private static void couldTake() {
        Granary g = some();
        Check.same("32 couldTake", g.couldTake(0, 0, 7), true);
        Check.same("32 couldTake", g.couldTake(0, 0, 8), false);
        Check.same("32 couldTake", g.couldTake(0, 1, 3), true);
        Check.same("32 couldTake", g.couldTake(0, 1, 4), false);
        Check.same("32 couldTake", g.couldTake(1, 1, 1), false);
        g.receive(1, 1, 2, 0);
        Check.same("32 on the last day", g.couldTake(1, 1, 2), true);
        g.pass(1);
        Check.same("32 behind it", g.couldTake(1, 1, 2), false);
        Check.noArgument("32 units", g, () -> g.couldTake(0, 0, 0));
        Check.noArgument("32 units", g, () -> g.couldTake(0, 0, 100));
        Check.noIndex("32 item, and units", g, () -> g.couldTake(2, 0, 0));
        g.receive(1, 0, 51, 9);
        Check.same("32 of several lots", g.couldTake(1, 0, 81), true);
        Check.same("32 99 units at most", g.couldTake(1, 0, 99), false);
    }

    private static void wrongNumbers() {
        Granary g = some();
        int[][] bad = {{-1, 0}, {2, 0}, {0, -1}, {0, 2}, {Integer.MIN_VALUE, 0}, {0, Integer.MAX_VALUE}};
        for (int[] b : bad) {
            Check.noIndex("26 onHand", g, () -> g.onHand(b[0], b[1]));
            Check.noIndex("27 free", g, () -> g.free(b[0], b[1]));
            Check.noIndex("28 underWay", g, () -> g.underWay(b[0], b[1]));
            Check.noIndex("29 position", g, () -> g.position(b[0], b[1]));
            Check.noIndex("31 expiring", g, () -> g.expiring(b[0], b[1], 1));
            Check.noIndex("32 couldTake", g, () -> g.couldTake(b[0], b[1], 1));
        }
        Check.noIndex("30 roomLeft", g, () -> g.roomLeft(-1));
        Check.noIndex("30 roomLeft", g, () -> g.roomLeft(2));
    }
}
