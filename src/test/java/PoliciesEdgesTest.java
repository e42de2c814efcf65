/** Sections 3 and 4 of the document at their edges: when a policy orders, how many units, and what is sent. */
public final class PoliciesEdgesTest {
    public static void main(String[] args) {
        position();
        whenItIsReviewed();
        multipleOfThePack();
        leadAndLife();
        fromASiteByLastDays();
        fromASiteByFreeUnits();
        fromASiteAtOnce();
        policyInPlaceOfAnother();
        sendByLastDays();
        sendFromLotsInOrder();
        sendNoMoreThanFree();
        aTransportForEachLot();
        routeThatChangesBehindIt();
        sendAtNinety();
        reviewAtNinety();
        ninetyInOneGo();
        reviewFromASiteAtNinety();
        balanceAtNinety();
        Check.end();
    }

    private static Granary two(int life, int pack) {
        Granary g = new Granary();
        g.addItem(life, 3, pack);
        g.addItem(99, 1, 1);
        g.addSite(9999);
        g.addSite(9999);
        g.setRoute(0, 1, 4);
        return g;
    }

    /** "its LOTS there, plus those under way to there, less those that orders from there, that are OPEN, are for" */
    private static void position() {
        Granary g = two(50, 1);
        Check.same("nothing there", g.position(0, 1), 0);
        g.receive(0, 1, 10, 30);
        g.receive(1, 1, 100, 30);
        Check.same("units of its lots", g.position(0, 1), 10);
        g.receive(0, 0, 9, 30);
        g.send(0, 0, 1, 7);
        Check.same("and those under way", g.position(0, 1), 17);
        Check.same("not those that leave", g.position(0, 0), 2);
        g.order(0, 1, 4, 9, 0, 0);
        Check.same("less those of an open order, whether reserved", g.position(0, 1), 13);
        g.order(0, 1, 20, 9, 0, 0);
        Check.same("or not", g.position(0, 1), -7);
        g.order(1, 1, 20, 9, 0, 0);
        g.order(0, 0, 1, 9, 0, 0);
        Check.same("not of another item or site", g.position(0, 1), -7);
        g.ship(0);
        Check.same("shipped: its units and the order are gone", g.position(0, 1), -7);
        g.cancel(1);
        Check.same("cancelled: it counts no more", g.position(0, 1), 13);
        g.pass(4);
        Check.same("arrived: once", g.position(0, 1), 13);
        g.pass(27);
        Check.same("wasted", g.position(0, 1), 0);
    }

    /** "if the POSITION is not above the point, and is below the top, top less POSITION units are wanted" */
    private static void whenItIsReviewed() {
        int[][] pointTopPositionDue = {{5, 9, 6, 0}, {5, 9, 5, 4}, {5, 9, 4, 5}, {5, 9, 0, 9}, {5, 9, -1, 10},
            {5, 9, 9, 0}, {9, 9, 10, 0}, {9, 9, 9, 0}, {9, 9, 8, 1}, {0, 0, 1, 0}, {0, 0, 0, 0}, {0, 0, -1, 1},
            {0, 1, 1, 0}, {0, 1, 0, 1}, {0, 999, 1, 0}, {0, 999, 0, 999}, {0, 999, -99, 1098}, {998, 999, 999, 0},
            {998, 999, 998, 1}, {999, 999, 999, 0}, {999, 999, 998, 1}};
        for (int[] p : pointTopPositionDue) {
            Granary g = two(50, 1);
            if (p[2] > 0) {
                g.receive(0, 1, p[2], 90);
            } else if (p[2] < 0) {
                g.order(0, 1, -p[2], 60, 0, 0);
            }
            g.setPolicy(0, 1, p[0], p[1], -1, 5);
            g.pass(1);
            String name = "point " + p[0] + ", top " + p[1] + ", position " + p[2];
            Check.same(name, g.transports(), p[3] == 0 ? 0 : 1);
            Check.same(name, g.underWay(0, 1), p[3]);
        }
    }

    /** "made more till they are a multiple of the pack" */
    private static void multipleOfThePack() {
        int[][] packTopDue = {{6, 5, 6}, {6, 6, 6}, {6, 7, 12}, {6, 11, 12}, {6, 12, 12}, {6, 13, 18}};
        for (int[] p : packTopDue) {
            Granary outside = two(50, p[0]);
            outside.setPolicy(0, 1, 0, p[1], -1, 5);
            outside.pass(1);
            Check.same("pack " + p[0] + ", wanted " + p[1], outside.ofTransport(0, 2), p[2]);
            Check.same("all of them are spent for", outside.account(3), 3 * p[2]);
            Granary site = two(50, p[0]);
            site.setPolicy(0, 1, 0, p[1], 0, 5);
            site.receive(0, 0, 30, 50);
            site.pass(1);
            Check.same("from a site, pack " + p[0] + ", wanted " + p[1], site.ofTransport(0, 2), p[2]);
        }
    }

    /** "which arrives on the DAY + the lead, with the last day that is the life of the item later than its arrival" */
    private static void leadAndLife() {
        for (int lead : new int[] {1, 2, 19, 20}) {
            for (int life : new int[] {1, 99}) {
                Granary g = two(life, 1);
                g.pass(4);
                g.setPolicy(0, 1, 0, 8, -1, lead);
                g.pass(1);
                Check.same("lead " + lead, g.ofTransport(0, 3), 5 + lead);
                Check.same("lead " + lead + ", life " + life, g.ofTransport(0, 4), 5 + lead + life);
                if (lead > 1) {
                    g.pass(lead - 1);
                }
                Check.same("a day ahead", g.onHand(0, 1), 0);
                g.pass(1);
                Check.same("arrived", g.onHand(0, 1), 8);
                Check.same("arrived", g.ofLot(0, 4), 5 + lead + life);
            }
        }
    }

    /** "as many as are FREE there in LOTS whose last day is later than the day of arrival" */
    private static void fromASiteByLastDays() {
        for (int days : new int[] {1, 4, 9}) {
            Granary g = two(50, 1);
            g.setRoute(0, 1, days);
            g.setPolicy(0, 1, 0, 5, 0, -3);
            g.receive(0, 0, 5, days + 1);
            g.pass(1);
            Check.same("its last day is that of arrival: nothing is sent", g.transports(), 0);
            Check.same("it stays", g.onHand(0, 0), 5);
            g.receive(0, 0, 5, days + 2);
            g.pass(1);
            Check.same("its last day is one later", g.transports(), 1);
            Check.same("its last day is one later", g.ofTransport(0, 4), days + 3);
            Check.same("on the day of arrival", g.ofTransport(0, 3), 2 + days);
            Check.same("the other one stays", g.ofLot(0, 2), 5);
        }
    }

    /** "but no more than wanted, are sent ...; if there are none, nothing is" */
    private static void fromASiteByFreeUnits() {
        int[][] thereDue = {{0, 0}, {1, 1}, {7, 7}, {8, 8}, {9, 8}};
        for (int[] t : thereDue) {
            Granary g = two(50, 4);
            g.setPolicy(0, 1, 2, 7, 0, 0);
            g.receive(0, 0, t[0] + 3, 50);
            g.order(0, 0, 3, 40, 0, 0);
            int spent = g.account(3);
            g.pass(1);
            String name = "wanted 8 by packs, free " + t[0];
            Check.same(name, g.underWay(0, 1), t[1]);
            Check.same(name, g.transports(), t[1] == 0 ? 0 : 1);
            Check.same(name + ", stay", g.onHand(0, 0), t[0] + 3 - t[1]);
            Check.same(name + ", the reserved ones stay", g.ofOrder(0, 2), 3);
            Check.same(name + ", nothing is spent", g.account(3), spent);
        }
    }

    /** The point and the top count for a policy from a site as well. */
    private static void fromASiteAtOnce() {
        int[][] pointTopPositionDue = {{5, 9, 6, 0}, {5, 9, 5, 4}, {9, 9, 9, 0}, {9, 9, 8, 1}};
        for (int[] p : pointTopPositionDue) {
            Granary g = two(50, 1);
            g.receive(0, 1, p[2], 90);
            g.receive(0, 0, 99, 90);
            g.setPolicy(0, 1, p[0], p[1], 0, 0);
            g.pass(1);
            Check.same("point " + p[0] + ", top " + p[1] + ", position " + p[2], g.underWay(0, 1), p[3]);
            g.pass(1);
            Check.same("what is under way is not wanted again", g.underWay(0, 1), p[3]);
        }
    }

    /** "Sets a POLICY, in place of one that is there." */
    private static void policyInPlaceOfAnother() {
        Granary g = two(50, 1);
        g.receive(0, 0, 99, 90);
        Check.same("none was there", g.setPolicy(0, 1, 0, 3, 0, 0), false);
        Check.same("one was there", g.setPolicy(0, 1, 0, 4, -1, 7), true);
        g.pass(1);
        Check.same("from outside", g.onHand(0, 0), 99);
        Check.same("its lead", g.ofTransport(0, 3), 8);
        Check.same("its top", g.ofTransport(0, 2), 4);
        Check.same("one was there", g.setPolicy(0, 1, 9, 10, 0, 7), true);
        Check.same("its point", g.lacks(0, 1), 5);
        g.pass(1);
        Check.same("from the site again", g.onHand(0, 0), 93);
        Check.same("by the route, not by a lead", g.ofTransport(1, 3), 6);
        Check.same("one was there", g.setPolicy(0, 1, 0, 0, -1, 1), true);
        g.setRoute(0, 1, 0);
        Check.same("the source of before is forgotten", g.hasPolicy(0, 1), true);
    }

    /** "whose last day is later than the DAY + the days of the ROUTE" */
    private static void sendByLastDays() {
        for (int days : new int[] {1, 4, 9}) {
            for (int today : new int[] {0, 3}) {
                Granary g = two(50, 1);
                g.setRoute(0, 1, days);
                if (today > 0) {
                    g.pass(today);
                }
                g.receive(0, 0, 5, days);
                Check.same("its last day is that of arrival", g.send(0, 0, 1, 5), 0);
                Check.same("it stays", g.onHand(0, 0), 5);
                g.receive(0, 0, 5, days + 1);
                Check.same("its last day is one later", g.send(0, 0, 1, 9), 5);
                Check.same("arrives", g.ofTransport(0, 3), today + days);
                Check.same("with its last day", g.ofTransport(0, 4), today + days + 1);
                Check.same("the other one stays", g.ofLot(0, 2), 5);
            }
        }
    }

    /** "the one with the earliest last day first, of several the one with the smallest number" */
    private static void sendFromLotsInOrder() {
        int[][] lastDays = {{7, 6, 8}, {7, 8, 6}, {6, 7, 8}, {7, 7, 7}, {8, 7, 7}, {7, 8, 7}, {4, 9, 5}};
        int[] first = {1, 2, 0, 0, 1, 0, 2};
        for (int i = 0; i < first.length; i++) {
            Granary g = two(50, 1);
            for (int days : lastDays[i]) {
                g.receive(0, 0, 5, days);
            }
            g.receive(1, 0, 5, 6);
            g.receive(0, 1, 5, 6);
            Check.same("case " + i, g.send(0, 0, 1, 5), 5);
            for (int lot = 0; lot < 5; lot++) {
                Check.same("case " + i + ", lot " + lot, g.ofLot(lot, 2), lot == first[i] ? 0 : 5);
            }
        }
    }

    /** "with as many units as are still to be sent and FREE in it" */
    private static void sendNoMoreThanFree() {
        for (int units = 6; units <= 8; units++) {
            Granary g = two(50, 1);
            g.receive(0, 0, 10, 50);
            g.order(0, 0, 3, 40, 0, 0);
            Check.same("send " + units + ", free 7", g.send(0, 0, 1, units), Math.min(7, units));
            Check.same("one transport", g.transports(), 1);
            Check.same("its units", g.ofTransport(0, 2), Math.min(7, units));
            Check.same("taken away from the lot", g.ofLot(0, 2), 10 - Math.min(7, units));
            Check.same("the reserved ones are not", g.ofLot(0, 3), 3);
        }
        Granary none = two(50, 1);
        none.receive(0, 0, 3, 50);
        none.order(0, 0, 3, 40, 0, 0);
        Check.same("none is free", none.send(0, 0, 1, 999), 0);
        Check.same("no transport without units", none.transports(), 0);
        Granary most = two(50, 1);
        most.receive(0, 0, 999, 50);
        most.receive(0, 0, 1, 50);
        Check.same("999 at most", most.send(0, 0, 1, 999), 999);
        Check.same("the other one stays", most.onHand(0, 0), 1);
    }

    /** "for each LOT a TRANSPORT of its own" */
    private static void aTransportForEachLot() {
        int[][] toSendDue = {{4, 4, 0, 0}, {5, 4, 1, 0}, {9, 4, 5, 0}, {10, 4, 5, 1}, {15, 4, 5, 6}, {16, 4, 5, 6}};
        for (int[] t : toSendDue) {
            Granary g = two(50, 1);
            g.receive(0, 0, 6, 8);
            g.receive(0, 0, 5, 7);
            g.receive(0, 0, 4, 6);
            Check.same("send " + t[0], g.send(0, 0, 1, t[0]), t[1] + t[2] + t[3]);
            int made = 1 + (t[2] > 0 ? 1 : 0) + (t[3] > 0 ? 1 : 0);
            Check.same("send " + t[0] + ", transports", g.transports(), made);
            for (int transport = 0; transport < made; transport++) {
                Check.same("units of " + transport, g.ofTransport(transport, 2), t[1 + transport]);
                Check.same("last day of " + transport, g.ofTransport(transport, 4), 6 + transport);
                Check.same("left in its lot", g.ofLot(2 - transport, 2), 4 + transport - t[1 + transport]);
            }
        }
    }

    /** What is under way arrives as it was sent, whatever becomes of its route. */
    private static void routeThatChangesBehindIt() {
        for (int days : new int[] {0, 1, 9}) {
            Granary g = two(50, 1);
            g.receive(0, 0, 9, 50);
            g.send(0, 0, 1, 5);
            g.setRoute(0, 1, days);
            g.pass(3);
            Check.same("under way", g.underWay(0, 1), 5);
            g.pass(1);
            Check.same("arrived on the fourth day", g.onHand(0, 1), 5);
        }
    }

    /** So many transports of one unit of the item 1, from the site 0 to the site 1. */
    private static Granary withTransports(int count) {
        Granary g = two(50, 1);
        g.receive(1, 0, 99, 90);
        for (int transport = 0; transport < count; transport++) {
            g.send(1, 0, 1, 1);
        }
        return g;
    }

    /** "If there are 90 TRANSPORTS, no more are made: what was to be sent stays where it is" */
    private static void sendAtNinety() {
        for (int there = 87; there <= 90; there++) {
            Granary g = withTransports(there);
            g.receive(0, 0, 6, 8);
            g.receive(0, 0, 5, 7);
            g.receive(0, 0, 4, 6);
            int[] due = {15, 9, 4, 0};
            Check.same("send with " + there, g.send(0, 0, 1, 99), due[there - 87]);
            Check.same("transports", g.transports(), 90);
            Check.same("what was to be sent stays", g.onHand(0, 0), 15 - due[there - 87]);
            Check.same("and is free", g.free(0, 0), 15 - due[there - 87]);
            Check.same("what was sent is under way", g.underWay(0, 1), due[there - 87]);
            g.pass(5);
            Check.same("they arrived, and count still", g.send(1, 0, 1, 1), 0);
        }
    }

    /** "If there are 90 TRANSPORTS, ... what was to be ordered is not" */
    private static void reviewAtNinety() {
        for (int there = 88; there <= 90; there++) {
            Granary g = withTransports(there);
            g.setPolicy(0, 0, 1, 5, -1, 2);
            g.setPolicy(0, 1, 1, 6, -1, 2);
            int spent = g.account(3);
            g.pass(1);
            Check.same("transports", g.transports(), 90);
            Check.same("ordered with " + there, g.underWay(0, 0), there <= 89 ? 5 : 0);
            Check.same("ordered with " + there, g.underWay(0, 1), there <= 88 ? 6 : 0);
            int units = there <= 88 ? 11 : there == 89 ? 5 : 0;
            Check.same("nor spent for", g.account(3), spent + 3 * units);
            g.pass(2);
            Check.same("on hand then", g.onHand(0, 0) + g.onHand(0, 1), units);
        }
    }

    /** In one go as in many: a transport for each of 95 lots, but for the last five of them. */
    private static void ninetyInOneGo() {
        Granary g = two(50, 1);
        for (int lot = 0; lot < 95; lot++) {
            g.receive(0, 0, 2, 50);
        }
        Check.same("ninety lots in one go", g.send(0, 0, 1, 999), 180);
        Check.same("transports", g.transports(), 90);
        Check.same("what was to be sent stays", g.onHand(0, 0), 10);
        g.setPolicy(0, 1, 0, 999, 0, 0);
        g.pass(4);
        Check.same("all of them arrived", g.onHand(0, 1), 180);
        Check.same("what was to be sent stays", g.onHand(0, 0), 10);
    }

    private static void reviewFromASiteAtNinety() {
        for (int there = 88; there <= 90; there++) {
            Granary g = withTransports(there);
            g.receive(0, 0, 4, 8);
            g.receive(0, 0, 5, 7);
            g.setPolicy(0, 1, 1, 9, 0, 2);
            g.pass(1);
            int[] due = {9, 5, 0};
            Check.same("sent with " + there, g.underWay(0, 1), due[there - 88]);
            Check.same("what was to be sent stays", g.onHand(0, 0), 9 - due[there - 88]);
        }
    }

    private static void balanceAtNinety() {
        for (int there = 88; there <= 90; there++) {
            Granary g = withTransports(there);
            g.receive(0, 0, 4, 8);
            g.receive(0, 0, 5, 7);
            g.setPolicy(0, 0, 0, 0, -1, 2);
            g.setPolicy(0, 1, 9, 9, -1, 2);
            int[] due = {9, 5, 0};
            Check.same("the plan with " + there, g.planned(0, 0, 1), 9);
            Check.same("balance with " + there, g.balance(0), due[there - 88]);
            Check.same("what was to be sent stays", g.onHand(0, 0), 9 - due[there - 88]);
            Check.same("transports", g.transports(), 90);
        }
    }
}
