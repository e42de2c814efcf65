/** Promises 41 to 44: what would be, and the digest. */
public final class AheadTest {
    public static void main(String[] args) {
        onHandIn();
        firstShort();
        shippedOn();
        ranksAndKeepsCountAhead();
        askingChangesNothing();
        digestOfNothing();
        digestOfSome();
        Check.end();
    }

    private static Granary some() {
        Granary g = new Granary();
        g.addItem(4, 5, 6);
        g.addItem(20, 7, 1);
        g.addSite(100);
        g.addSite(40);
        g.setRoute(0, 1, 2);
        g.setPolicy(0, 0, 5, 20, -1, 3);
        g.setPolicy(0, 1, 5, 9, 0, 0);
        g.receive(0, 0, 12, 5);
        g.receive(1, 1, 30, 8);
        g.order(0, 0, 9, 2, 0, 0);
        g.order(0, 1, 6, 4, 0, 0);
        g.order(1, 1, 6, 12, 0, 0);
        g.order(0, 0, 3, 1, 0, 0);
        g.cancel(3);
        g.pass(1);
        return g;
    }

    private static void onHandIn() {
        for (int days = 1; days <= 30; days++) {
            Granary g = some();
            Granary twin = some();
            int[] told = new int[4];
            for (int at = 0; at < 4; at++) {
                told[at] = g.onHandIn(at / 2, at % 2, days);
            }
            twin.pass(days);
            for (int at = 0; at < 4; at++) {
                Check.same("41 onHandIn " + days, told[at], twin.onHand(at / 2, at % 2));
            }
        }
        Granary g = some();
        Check.noArgument("41 days", g, () -> g.onHandIn(0, 0, 0));
        Check.noArgument("41 days", g, () -> g.onHandIn(0, 0, 31));
        Check.noIndex("41 item, and days", g, () -> g.onHandIn(2, 0, 0));
        Check.noIndex("41 item", g, () -> g.onHandIn(-1, 0, 1));
        Check.noIndex("41 site", g, () -> g.onHandIn(0, 2, 1));
        Check.noIndex("41 site", g, () -> g.onHandIn(0, -1, 1));
    }

    private static void firstShort() {
        Granary g = new Granary();
        g.addItem(4, 5, 6);
        g.addSite(100);
        Check.same("42 nothing is short", g.firstShort(30), -1);
        g.pass(3);
        g.receive(0, 0, 5, 9);
        g.order(0, 0, 5, 2, 0, 0);
        g.order(0, 0, 1, 4, 0, 0);
        Check.same("42 not within so many", g.firstShort(3), -1);
        Check.same("42 the day, not how far it is", g.firstShort(4), 7);
        Check.same("42 the first one", g.firstShort(30), 7);
        g.pass(6);
        Check.same("42 short before as well", g.firstShort(1), 10);
        g.cancel(1);
        Check.same("42 what was short does not count", g.firstShort(30), -1);
        Check.noArgument("42 days", g, () -> g.firstShort(0));
        Check.noArgument("42 days", g, () -> g.firstShort(31));
    }

    private static void shippedOn() {
        Granary g = some();
        Check.same("43 it would be", g.shippedOn(0, 1), 2);
        Check.same("43 it would be", g.shippedOn(0, 30), 2);
        Check.same("43 not within so many", g.shippedOn(2, 10), -1);
        Check.same("43 just within so many", g.shippedOn(2, 11), -1);
        Check.same("43 cancelled", g.shippedOn(3, 30), -1);
        g.pass(4);
        Check.same("43 it was", g.shippedOn(0, 1), 2);
        Check.noIndex("43 order", g, () -> g.shippedOn(4, 0));
        Check.noIndex("43 order", g, () -> g.shippedOn(-1, 1));
        Check.noArgument("43 days", g, () -> g.shippedOn(1, 0));
        Check.noArgument("43 days, shipped already", g, () -> g.shippedOn(0, 31));
        Granary h = new Granary();
        h.addItem(4, 5, 6);
        h.addSite(100);
        h.receive(0, 0, 5, 20);
        h.order(0, 0, 5, 12, 0, 0);
        h.pass(1);
        Check.same("43 one day too few", h.shippedOn(0, 10), -1);
        Check.same("43 just enough", h.shippedOn(0, 11), 12);
        h.ship(0);
        Check.same("43 shipped ahead", h.shippedOn(0, 1), 1);
    }

    private static void ranksAndKeepsCountAhead() {
        Granary g = new Granary();
        g.addItem(9, 5, 1);
        g.addSite(100);
        g.order(0, 0, 4, 3, 2, 0);
        g.order(0, 0, 4, 3, 1, 0);
        g.order(0, 0, 4, 3, 0, 6);
        g.receive(0, 0, 4, 8);
        Check.same("43 the rank decides", g.shippedOn(1, 9), 3);
        Check.same("43 the rank decides", g.shippedOn(0, 9), -1);
        Check.same("43 none lasts so long", g.shippedOn(2, 9), -1);
        g.setPolicy(0, 0, 99, 99, -1, 2);
        Check.same("43 what is ordered ahead comes on the third day", g.shippedOn(2, 9), 3);
        Check.same("42 in time for all", g.firstShort(9), -1);
    }

    private static void askingChangesNothing() {
        Granary g = some();
        long before = g.digest();
        g.onHandIn(0, 0, 30);
        g.firstShort(30);
        g.shippedOn(1, 30);
        g.planned(0, 0, 1);
        Check.same("41 to 44 change nothing", g.digest(), before);
        g.pass(30);
        Granary twin = some();
        twin.pass(30);
        Check.same("44 the same calls, the same digest", g.digest(), twin.digest());
    }

    private static void digestOfNothing() {
        long due = 58035;
        for (int number = 0; number < 11; number++) {
            due = due * 31;
        }
        Check.same("44 a new object", new Granary().digest(), due);
    }

    private static long sum;

    private static void add(long... numbers) {
        for (long number : numbers) {
            sum = sum * 31 + number;
        }
    }

    private static void digestOfSome() {
        Granary g = some();
        g.send(0, 0, 1, 1);
        g.receive(0, 0, 2, 9);
        g.order(0, 0, 1, 2, 0, 0);
        g.setRoute(1, 0, 1);
        g.receive(1, 0, 9, 9);
        g.setPolicy(1, 0, 2, 3, -1, 4);
        g.setPolicy(1, 1, 30, 40, -1, 4);
        g.receive(0, 1, 9, 9);
        g.setPolicy(0, 1, 0, 1, -1, 4);
        g.setPolicy(0, 0, 99, 99, -1, 4);
        Check.same("44 one unit of a lot is reserved", g.reserved(4, 2), 1);
        Check.same("44 planned", g.planned(0, 1, 0) > 0 && g.planned(1, 0, 1) > 0, true);
        sum = 58035;
        add(g.day(), g.items(), g.sites(), g.lots(), g.orders(), g.transports());
        for (int what = 0; what <= 4; what++) {
            add(g.account(what));
        }
        for (int lot = 0; lot < g.lots(); lot++) {
            for (int what = 0; what <= 4; what++) {
                add(g.ofLot(lot, what));
            }
        }
        for (int order = 0; order < g.orders(); order++) {
            for (int what = 0; what <= 4; what++) {
                add(g.ofOrder(order, what));
            }
            for (int lot = 0; lot < g.lots(); lot++) {
                if (g.reserved(order, lot) > 0) {
                    add(lot, g.reserved(order, lot));
                }
            }
        }
        for (int transport = 0; transport < g.transports(); transport++) {
            for (int what = 0; what <= 5; what++) {
                add(g.ofTransport(transport, what));
            }
        }
        add(g.route(0, 0), g.route(0, 1), g.route(1, 0), g.route(1, 1));
        for (int item = 0; item < 2; item++) {
            for (int site = 0; site < 2; site++) {
                add(g.hasPolicy(item, site) ? 1 : 0, g.onHand(item, site), g.free(item, site),
                        g.underWay(item, site), g.position(item, site), g.lacks(item, site),
                        g.spares(item, site), g.rate(item, site, 7));
            }
        }
        for (int item = 0; item < 2; item++) {
            add(g.classOf(item), g.planned(item, 0, 1), g.planned(item, 1, 0));
        }
        add(g.roomLeft(0), g.roomLeft(1));
        Check.same("44 digest", g.digest(), sum);
    }
}
