/** All promises with as many items, sites, lots, orders and transports as there can be: each answer like Model's. */
public final class LimitsTest {
    private final Granary g = new Granary();
    private final Model m = new Model();

    /** A new object for each stage, so that none is called more than 512 times. */
    public static void main(String[] args) {
        for (int stage = 0; stage <= 7; stage++) {
            LimitsTest answers = at(stage);
            answers.compare("at the stage " + stage);
            at(stage).wouldBe();
        }
        at(7).noMore();
        Check.end();
    }

    private static LimitsTest at(int stage) {
        LimitsTest test = new LimitsTest();
        test.fill();
        if (stage >= 1) {
            Check.same("9 reserveAnew", test.g.reserveAnew(), test.m.reserveAnew());
        }
        if (stage >= 2) {
            Check.same("8 cancel", test.g.cancel(59), test.m.cancel(59));
            Check.same("13 balance", test.g.balance(5), test.m.balance(5));
        }
        for (int later = 3; later <= stage; later++) {
            Check.same("11 pass", test.g.pass(1 << (later - 3)), test.m.pass(1 << (later - 3)));
        }
        return test;
    }

    private void fill() {
        for (int item = 0; item < 6; item++) {
            g.addItem(9 + item, 90 + item, 1 + item);
            m.addItem(9 + item, 90 + item, 1 + item);
        }
        for (int site = 0; site < 5; site++) {
            g.addSite(9999);
            m.addSite(9999);
        }
        for (int at = 0; at < 25; at++) {
            if (at / 5 != at % 5) {
                g.setRoute(at / 5, at % 5, 1 + at % 9);
                m.setRoute(at / 5, at % 5, 1 + at % 9);
            }
        }
        for (int lot = 0; lot < 200; lot++) {
            int item = lot < 110 ? 5 : lot % 6;
            int site = lot < 110 ? 4 : lot % 5;
            g.receive(item, site, 1 + lot % 50, 3 + lot % 40);
            m.receive(item, site, 1 + lot % 50, 3 + lot % 40);
        }
        for (int order = 0; order < 60; order++) {
            int item = order % 7 == 6 ? 5 : order % 6;
            int rank = 9 - order % 10;
            g.order(item, order % 5, 5 + order % 40, order % 21, rank, order % 6);
            m.order(item, order % 5, 5 + order % 40, order % 21, rank, order % 6);
        }
        for (int at = 0; at < 30; at++) {
            g.setPolicy(at / 5, at % 5, at * 5, at * 7, at % 5 == 4 ? -1 : 4, 20);
            m.setPolicy(at / 5, at % 5, at * 5, at * 7, at % 5 == 4 ? -1 : 4, 20);
        }
        for (int to = 0; to < 4; to++) {
            Check.same("12 send", g.send(5, 4, to, 600), m.send(5, 4, to, 600));
        }
    }

    private void compare(String when) {
        Check.same("14 to 40 " + when + ", digest", g.digest(), m.digest());
        for (int at = 0; at < 30; at++) {
            int days = 1 + at * 2;
            Check.same("31 expiring " + when, g.expiring(at / 5, at % 5, at), m.expiring(at / 5, at % 5, at));
            Check.same("32 couldTake " + when, g.couldTake(at / 5, at % 5, 99), m.couldTake(at / 5, at % 5, 99));
            Check.same("34 rate " + when, g.rate(at / 5, at % 5, days), m.rate(at / 5, at % 5, days));
            Check.same("35 pointFor " + when, g.pointFor(at / 5, at % 5, days, 1 + at),
                    m.pointFor(at / 5, at % 5, days, 1 + at));
        }
        Check.same("37 punctuality " + when, g.punctuality(), m.punctuality());
    }

    private void wouldBe() {
        long before = g.digest();
        for (int at = 0; at < 30; at++) {
            Check.same("41 onHandIn", g.onHandIn(at / 5, at % 5, 1 + at), m.onHandIn(at / 5, at % 5, 1 + at));
            Check.same("42 firstShort", g.firstShort(1 + at), m.firstShort(1 + at));
            Check.same("43 shippedOn", g.shippedOn(at * 2, 1 + at), m.shippedOn(at * 2, 1 + at));
        }
        Check.same("41 to 43 change nothing", g.digest(), before);
    }

    private void noMore() {
        Check.same("15 items", g.items(), 6);
        Check.same("16 sites", g.sites(), 5);
        Check.same("17 lots", g.lots(), 200);
        Check.same("18 orders", g.orders(), 60);
        Check.same("19 transports", g.transports(), 90);
        Check.noState("2 an item", g, () -> g.addItem(1, 1, 1));
        Check.noState("3 a site", g, () -> g.addSite(1));
        Check.noState("6 a lot", g, () -> g.receive(0, 0, 1, 1));
        Check.noState("7 an order", g, () -> g.order(0, 0, 1, 1, 1, 1));
        Check.noIndex("20 the lot 200", g, () -> g.ofLot(200, 0));
        Check.noIndex("21 the order 60", g, () -> g.ofOrder(60, 0));
        Check.noIndex("22 the lot 200", g, () -> g.reserved(59, 200));
        Check.noIndex("23 the transport 90", g, () -> g.ofTransport(90, 0));
    }
}
