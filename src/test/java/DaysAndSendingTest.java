/** Promises 11 to 13, and sections 3 to 5: days, reviews, sending. (Plans are looked at in BalancingTest.) */
public final class DaysAndSendingTest {
    public static void main(String[] args) {
        pass();
        lotsExpire();
        transportsArrive();
        arrivalsAreReservedAndShipped();
        shortByDays();
        reviewFromOutside();
        reviewAtTheEdges();
        reviewFromASite();
        reviewsByItemsThenSites();
        noMoreThan90Transports();
        noMoreThan200Lots();
        send();
        sendStopsAt90();
        balance();
        Check.end();
    }

    private static Granary twoSites() {
        Granary g = new Granary();
        g.addItem(10, 5, 4);
        g.addItem(3, 7, 1);
        g.addSite(100);
        g.addSite(50);
        g.setRoute(0, 1, 2);
        return g;
    }

    private static void pass() {
        Granary g = new Granary();
        for (int days : new int[] {0, -1, 31, Integer.MAX_VALUE, Integer.MIN_VALUE}) {
            Check.noArgument("11 days", g, () -> g.pass(days));
        }
        Check.same("11 pass", g.pass(1), 1);
        Check.same("11 pass", g.pass(30), 31);
        Check.same("11 day", g.day(), 31);
    }

    private static void lotsExpire() {
        Granary g = twoSites();
        g.receive(0, 0, 8, 2);
        g.receive(1, 0, 2, 3);
        g.order(0, 0, 5, 1, 0, 0);
        g.order(0, 0, 6, 2, 0, 0);
        g.order(1, 0, 2, 9, 0, 0);
        g.pass(1);
        Check.same("11 holding", g.account(0), 3 * 5 + 2 * 7);
        g.pass(1);
        Check.same("11 the last day counts", g.onHand(0, 0), 3);
        Check.same("11 reserved", g.ofOrder(1, 2), 3);
        g.pass(1);
        Check.same("11 wasted", g.onHand(0, 0), 0);
        Check.same("11 waste", g.account(1), 15);
        Check.same("11 taken from its order", g.ofOrder(1, 2), 0);
        Check.same("11 taken from its order", g.reserved(1, 0), 0);
        Check.same("11 reserved of an empty lot", g.ofLot(0, 3), 0);
        Check.same("11 last day stays", g.ofLot(0, 4), 2);
        g.pass(1);
        Check.same("11 waste, once", g.account(1), 15 + 14);
        Check.same("11 holding", g.account(0), 29 + 29 + 14);
    }

    private static void transportsArrive() {
        Granary g = twoSites();
        g.receive(0, 0, 60, 9);
        g.receive(1, 1, 30, 3);
        g.send(0, 0, 1, 15);
        g.send(0, 0, 1, 15);
        g.send(0, 0, 1, 15);
        g.pass(1);
        Check.same("11 under way", g.underWay(0, 1), 45);
        g.pass(1);
        Check.same("11 the first one comes in, of the second one a part", g.onHand(0, 1), 20);
        Check.same("11 each one a lot, without units none", g.lots(), 4);
        Check.same("11 a part", g.ofLot(3, 2), 5);
        Check.same("11 its item", g.ofLot(3, 0), 0);
        Check.same("11 its site", g.ofLot(3, 1), 1);
        Check.same("11 its last day", g.ofLot(3, 4), 9);
        Check.same("11 the others are wasted", g.account(1), 25 * 5);
        Check.same("11 none is under way", g.underWay(0, 1), 0);
        Check.same("11 no room is left", g.roomLeft(1), 0);
    }

    private static void arrivalsAreReservedAndShipped() {
        Granary g = twoSites();
        g.receive(0, 0, 60, 9);
        g.send(0, 0, 1, 10);
        g.order(0, 1, 6, 2, 1, 0);
        g.order(0, 1, 6, 1, 2, 0);
        g.pass(2);
        Check.same("11 reserved by rank, shipped", g.ofOrder(0, 4), 2);
        Check.same("11 the other one got what was left", g.ofOrder(1, 2), 4);
        Check.same("11 short on the days 1 and 2", g.account(2), 6 + 2);
        Check.same("11 earned", g.account(4), 6 * 10);
        Check.same("11 holding", g.account(0), 50 * 5 + (50 + 4) * 5);
    }

    private static void shortByDays() {
        Granary g = twoSites();
        g.order(0, 0, 9, 2, 0, 0);
        g.order(0, 0, 9, 0, 0, 0);
        g.cancel(1);
        g.receive(0, 0, 5, 20);
        g.pass(1);
        Check.same("11 nothing is due", g.account(2), 0);
        g.pass(1);
        Check.same("11 short", g.account(2), 4);
        g.pass(3);
        Check.same("11 short, day by day", g.account(2), 16);
        g.receive(0, 0, 5, 20);
        g.pass(1);
        Check.same("11 shipped late", g.ofOrder(0, 4), 6);
        Check.same("11 not short any more", g.account(2), 16);
    }

    private static void reviewFromOutside() {
        Granary g = twoSites();
        g.setPolicy(0, 0, 5, 9, -1, 3);
        g.pass(1);
        Check.same("11 ordered", g.transports(), 1);
        Check.same("11 in packs", g.ofTransport(0, 2), 12);
        Check.same("11 arrives", g.ofTransport(0, 3), 4);
        Check.same("11 last day", g.ofTransport(0, 4), 14);
        Check.same("11 spent", g.account(3), 60);
        g.pass(2);
        Check.same("11 what is under way counts", g.transports(), 1);
        g.order(0, 0, 7, 9, 0, 0);
        g.pass(1);
        Check.same("11 what open orders are for counts", g.ofTransport(1, 2), 4);
        Check.same("11 arrives", g.ofTransport(1, 3), 7);
    }

    private static void reviewAtTheEdges() {
        Granary g = twoSites();
        g.receive(0, 0, 5, 9);
        g.receive(1, 0, 6, 9);
        g.receive(0, 1, 8, 9);
        g.setPolicy(0, 0, 5, 9, -1, 3);
        g.setPolicy(1, 0, 5, 9, -1, 3);
        g.setPolicy(0, 1, 8, 8, -1, 3);
        g.pass(1);
        Check.same("11 not above the point: ordered; above it, or at the top: not", g.transports(), 1);
        Check.same("11 a multiple of the pack already", g.ofTransport(0, 2), 4);
        Check.same("11 its item", g.ofTransport(0, 0), 0);
        Check.same("11 its site", g.ofTransport(0, 1), 0);
    }

    private static void reviewFromASite() {
        Granary g = twoSites();
        g.receive(0, 0, 3, 3);
        g.receive(0, 0, 3, 4);
        g.receive(0, 0, 30, 5);
        g.setPolicy(0, 1, 2, 6, 0, 0);
        g.order(0, 0, 2, 4, 0, 0);
        g.pass(1);
        Check.same("11 two lots, two transports", g.transports(), 2);
        Check.same("11 too early a last day", g.ofLot(0, 2), 3);
        Check.same("11 the earliest that lasts longer than the way, without the reserved", g.ofLot(1, 2), 2);
        Check.same("11 what is free, in packs all together", g.ofTransport(0, 2) + g.ofTransport(1, 2), 8);
        Check.same("11 not spent again", g.account(3), 36 * 5);
        Granary none = twoSites();
        none.setPolicy(0, 1, 2, 6, 0, 0);
        none.receive(0, 0, 9, 3);
        none.pass(1);
        Check.same("11 none lasts longer than the way: nothing is sent", none.transports(), 0);
        none.receive(0, 0, 3, 3);
        none.pass(1);
        Check.same("11 on the day of arrival is too early still", none.transports(), 0);
        none.receive(0, 0, 3, 4);
        none.pass(1);
        Check.same("11 no more than there are", none.ofTransport(0, 2), 3);
    }

    private static void reviewsByItemsThenSites() {
        Granary g = new Granary();
        g.addItem(9, 1, 1);
        g.addItem(9, 1, 1);
        g.addSite(100);
        g.addSite(100);
        g.setPolicy(1, 0, 1, 2, -1, 1);
        g.setPolicy(0, 1, 1, 3, -1, 1);
        g.setPolicy(1, 1, 1, 4, -1, 1);
        g.setPolicy(0, 0, 1, 5, -1, 1);
        g.pass(1);
        int[] due = {5, 3, 2, 4};
        for (int transport = 0; transport < 4; transport++) {
            Check.same("11 by items, of each by sites", g.ofTransport(transport, 2), due[transport]);
        }
    }

    private static void noMoreThan90Transports() {
        Granary g = twoSites();
        g.setPolicy(1, 0, 0, 1, -1, 1);
        g.order(1, 0, 1, 0, 0, 0);
        for (int i = 0; i < 59; i++) {
            g.order(1, 0, 1, 60, 0, 20);
        }
        g.cancel(0);
        for (int turn = 0; turn < 16; turn++) {
            g.pass(30);
        }
        Check.same("11 transports", g.transports(), 90);
        int spent = g.account(3);
        g.pass(30);
        Check.same("11 what was to be ordered is not", g.transports(), 90);
        Check.same("11 nor spent", g.account(3), spent);
        Check.same("11 nothing comes any more", g.underWay(1, 0), 0);
        g.receive(0, 0, 9, 30);
        Check.same("12 what was to be sent stays", g.send(0, 0, 1, 9), 0);
        Check.same("12 where it is", g.onHand(0, 0), 9);
    }

    private static void noMoreThan200Lots() {
        Granary g = twoSites();
        for (int lot = 0; lot < 199; lot++) {
            g.receive(1, 1, 1, 0);
            if (lot % 40 == 39) {
                g.pass(1);
            }
        }
        g.setPolicy(0, 0, 0, 4, -1, 1);
        g.setPolicy(0, 1, 0, 8, -1, 1);
        g.pass(2);
        Check.same("11 the last lot", g.lots(), 200);
        Check.same("11 the last lot", g.onHand(0, 0), 4);
        Check.same("11 no other one", g.onHand(0, 1), 0);
        Check.same("11 it is wasted", g.account(1), 199 * 7 + 8 * 5);
        Check.same("11 it has arrived", g.ofTransport(1, 5), 0);
    }

    private static void send() {
        Granary g = twoSites();
        g.receive(0, 0, 5, 9);
        g.receive(0, 0, 5, 3);
        g.receive(0, 0, 5, 3);
        g.receive(0, 0, 5, 2);
        Check.noIndex("12 item", g, () -> g.send(2, 0, 1, 1));
        Check.noIndex("12 item", g, () -> g.send(-1, 0, 1, 1));
        Check.noIndex("12 from", g, () -> g.send(0, 2, 1, 1));
        Check.noIndex("12 to, and units", g, () -> g.send(0, 0, -1, 0));
        Check.noArgument("12 no route", g, () -> g.send(0, 1, 0, 1));
        Check.noArgument("12 no route", g, () -> g.send(0, 0, 0, 1));
        Check.noArgument("12 units", g, () -> g.send(0, 0, 1, 0));
        Check.noArgument("12 units", g, () -> g.send(0, 0, 1, 1000));
        g.order(0, 0, 2, 3, 0, 0);
        Check.same("12 send", g.send(0, 0, 1, 9), 9);
        int[] units = {3, 5, 1};
        int[] last = {3, 3, 9};
        for (int transport = 0; transport < 3; transport++) {
            Check.same("12 units", g.ofTransport(transport, 2), units[transport]);
            Check.same("12 last day", g.ofTransport(transport, 4), last[transport]);
            Check.same("12 arrives", g.ofTransport(transport, 3), 2);
            Check.same("12 to", g.ofTransport(transport, 1), 1);
        }
        Check.same("12 the reserved ones stay", g.ofLot(1, 2), 2);
        Check.same("12 too early a last day", g.ofLot(3, 2), 5);
        Check.same("12 as many as can be", g.send(0, 0, 1, 999), 4);
        Check.same("12 nothing more", g.send(0, 0, 1, 999), 0);
        g.setRoute(0, 1, 1);
        Check.same("12 by a route of one day", g.send(0, 0, 1, 999), 5);
        Check.same("12 transports", g.transports(), 5);
        Check.same("12 arrives", g.ofTransport(4, 3), 1);
    }

    private static void sendStopsAt90() {
        Granary g = twoSites();
        for (int lot = 0; lot < 95; lot++) {
            g.receive(1, 0, 1, 50);
        }
        Check.same("12 one transport for each lot, up to 90", g.send(1, 0, 1, 999), 90);
        Check.same("12 the others stay", g.onHand(1, 0), 5);
        g.pass(2);
        Check.same("12 arrived ones count as well", g.send(1, 0, 1, 1), 0);
        Check.same("12 there is room for 50", g.onHand(1, 1), 50);
    }

    private static void balance() {
        Granary g = twoSites();
        Check.noIndex("13 item", g, () -> g.balance(2));
        Check.noIndex("13 item", g, () -> g.balance(-1));
        Check.same("13 without policies", g.balance(0), 0);
        g.receive(0, 0, 9, 1);
        g.receive(0, 0, 9, 9);
        g.setPolicy(0, 0, 0, 2, -1, 1);
        g.setPolicy(0, 1, 12, 12, -1, 1);
        Check.same("13 the plan", g.planned(0, 0, 1), 12);
        Check.same("13 as far as lots last long enough", g.balance(0), 9);
        Check.same("13 one transport", g.transports(), 1);
        Check.same("13 nothing lasts any more", g.balance(0), 0);
        Check.same("13 of another item nothing", g.balance(1), 0);
    }
}
