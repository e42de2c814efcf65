import java.util.Arrays;

/**
 * Every line "Throws" of the document: each argument at both ends of its bounds and just beyond them, every
 * mixture of wrong arguments ("If several exceptions apply, the one that is named first is thrown."), and each
 * refused call between two digests ("A method that throws an exception changes nothing.").
 */
public final class ThrowsTest {
    private interface Asked {
        void on(Granary g, int[] a);
    }

    private static final Class<? extends RuntimeException> INDEX = IndexOutOfBoundsException.class;
    private static final Class<? extends RuntimeException> ARGUMENT = IllegalArgumentException.class;
    private static final Class<? extends RuntimeException> STATE = IllegalStateException.class;

    private static final int ITEMS = 2;
    private static final int SITES = 3;
    private static final int LOTS = 6;
    private static final int ORDERS = 5;
    private static final int TRANSPORTS = 3;

    public static void main(String[] args) {
        theGranaryOfThisTest();
        whatThereIs();
        policies();
        lotsAndOrders();
        daysAndSending();
        askingWhatThereIs();
        askingStocks();
        whatWasCounted();
        balancing();
        whatWouldBe();
        withoutAnything();
        Check.end();
    }

    /** Routes lead 0-1, 1-0, 1-2, 2-1; the orders 0 and 4 are open, and have what they are for. */
    private static Granary some() {
        Granary g = new Granary();
        g.addItem(10, 5, 4);
        g.addItem(20, 7, 1);
        g.addSite(400);
        g.addSite(300);
        g.addSite(9999);
        g.setRoute(0, 1, 2);
        g.setRoute(1, 0, 3);
        g.setRoute(1, 2, 1);
        g.setRoute(2, 1, 4);
        g.setPolicy(0, 0, 10, 30, -1, 3);
        g.setPolicy(0, 1, 20, 25, 0, 0);
        g.setPolicy(1, 2, 5, 6, -1, 2);
        g.receive(0, 0, 30, 12);
        g.receive(0, 0, 20, 6);
        g.receive(1, 1, 25, 9);
        g.receive(0, 2, 15, 20);
        g.receive(1, 0, 11, 9);
        g.receive(0, 1, 9, 40);
        g.order(0, 0, 8, 5, 3, 2);
        g.order(1, 1, 40, 3, 1, 0);
        g.order(0, 2, 3, 9, 0, 0);
        g.order(0, 2, 2, 0, 0, 0);
        g.cancel(2);
        g.ship(3);
        g.send(0, 2, 1, 4);
        g.pass(1);
        g.order(1, 0, 6, 4, 9, 3);
        return g;
    }

    private static void theGranaryOfThisTest() {
        Granary g = some();
        Check.same("items", g.items(), ITEMS);
        Check.same("sites", g.sites(), SITES);
        Check.same("lots", g.lots(), LOTS);
        Check.same("orders", g.orders(), ORDERS);
        Check.same("transports", g.transports(), TRANSPORTS);
        int[] states = {0, 0, 2, 1, 0};
        for (int order = 0; order < ORDERS; order++) {
            Check.same("state of " + order, g.ofOrder(order, 0), states[order]);
        }
    }

    private static void refused(String name, Check.Maker maker, Class<? extends RuntimeException> due, Asked call,
            int... a) {
        Check.leavesAsItWas(name + Arrays.toString(a), due, maker, g -> call.on(g, a));
    }

    /** The argument at its place in a: fine from least to most, refused just beyond these, and far beyond them. */
    private static void ends(String name, Class<? extends RuntimeException> kind, Asked call, int[] a, int at,
            int least, int most) {
        for (int inside : new int[] {least, most}) {
            int[] b = a.clone();
            b[at] = inside;
            Class<?> got = Check.thrownBy(some(), g -> call.on(g, b));
            if (got != null) {
                Check.report(name + Arrays.toString(b) + " threw " + got + ", and is within its bounds");
            }
        }
        for (int outside : new int[] {least - 1, most + 1, Integer.MIN_VALUE, Integer.MAX_VALUE}) {
            int[] b = a.clone();
            b[at] = outside;
            refused(name, ThrowsTest::some, kind, call, b);
        }
    }

    /** All mixtures of wrong arguments: wrong[i] is the wrong value of a[i], or a[i] itself if none is wrong there. */
    private static void mixtures(String name, Check.Maker maker, boolean stateIsWrong, Asked call, int[] a,
            int[] wrong, String kinds) {
        for (int mixture = stateIsWrong ? 0 : 1; mixture < 1 << a.length; mixture++) {
            int[] b = a.clone();
            Class<? extends RuntimeException> due = stateIsWrong ? STATE : null;
            for (int at = 0; at < a.length; at++) {
                if ((mixture >> at & 1) == 1 && wrong[at] != a[at]) {
                    b[at] = wrong[at];
                    due = kinds.charAt(at) == 'i' || due == INDEX ? INDEX : ARGUMENT;
                }
            }
            if (due != null) {
                refused(name, maker, due, call, b);
            }
        }
    }

    private static int[] of(int... a) {
        return a;
    }

    private static void whatThereIs() {
        Asked addItem = (g, a) -> g.addItem(a[0], a[1], a[2]);
        ends("2 addItem, life", ARGUMENT, addItem, of(9, 9, 9), 0, 1, 99);
        ends("2 addItem, price", ARGUMENT, addItem, of(9, 9, 9), 1, 1, 99);
        ends("2 addItem, pack", ARGUMENT, addItem, of(9, 9, 9), 2, 1, 20);
        mixtures("2 addItem", ThrowsTest::some, false, addItem, of(9, 9, 9), of(0, 100, 21), "aaa");
        mixtures("2 addItem, there are 6", ThrowsTest::sixItemsFiveSites, true, addItem, of(9, 9, 9), of(0, 0, 0), "aaa");
        Asked addSite = (g, a) -> g.addSite(a[0]);
        ends("3 addSite, room", ARGUMENT, addSite, of(9), 0, 1, 9999);
        mixtures("3 addSite, there are 5", ThrowsTest::sixItemsFiveSites, true, addSite, of(9), of(10000), "a");
        Asked setRoute = (g, a) -> g.setRoute(a[0], a[1], a[2]);
        ends("4 setRoute, from", INDEX, setRoute, of(0, 1, 5), 0, 0, SITES - 1);
        ends("4 setRoute, to", INDEX, setRoute, of(1, 0, 5), 1, 0, SITES - 1);
        ends("4 setRoute, days", ARGUMENT, setRoute, of(0, 1, 5), 2, 0, 9);
        mixtures("4 setRoute", ThrowsTest::some, false, setRoute, of(0, 1, 5), of(-1, 3, 10), "iia");
        mixtures("4 setRoute", ThrowsTest::some, false, setRoute, of(0, 1, 5), of(3, -1, -1), "iia");
        for (int site = 0; site < SITES; site++) {
            refused("4 setRoute, both are the same", ThrowsTest::some, ARGUMENT, setRoute, site, site, 5);
            refused("4 setRoute, both are the same", ThrowsTest::some, ARGUMENT, setRoute, site, site, 0);
        }
        refused("4 setRoute, both are the same, and none", ThrowsTest::some, INDEX, setRoute, 3, 3, 5);
        refused("4 setRoute, both are the same, and none", ThrowsTest::some, INDEX, setRoute, -1, -1, 0);
    }

    private static Granary sixItemsFiveSites() {
        Granary g = some();
        for (int item = ITEMS; item < 6; item++) {
            g.addItem(5, 5, 5);
        }
        for (int site = SITES; site < 5; site++) {
            g.addSite(50);
        }
        return g;
    }

    private static void policies() {
        Asked set = (g, a) -> g.setPolicy(a[0], a[1], a[2], a[3], a[4], a[5]);
        ends("5 setPolicy, item", INDEX, set, of(0, 1, 5, 9, -1, 3), 0, 0, ITEMS - 1);
        ends("5 setPolicy, site", INDEX, set, of(0, 1, 5, 9, -1, 3), 1, 0, SITES - 1);
        ends("5 setPolicy, point", ARGUMENT, set, of(0, 1, 5, 999, -1, 3), 2, 0, 999);
        ends("5 setPolicy, point up to the top", ARGUMENT, set, of(0, 1, 5, 9, -1, 3), 2, 0, 9);
        ends("5 setPolicy, top", ARGUMENT, set, of(0, 1, 5, 9, -1, 3), 3, 5, 999);
        ends("5 setPolicy, top of the point 0", ARGUMENT, set, of(0, 1, 0, 9, -1, 3), 3, 0, 999);
        ends("5 setPolicy, top of the point 999", ARGUMENT, set, of(0, 1, 999, 999, -1, 3), 3, 999, 999);
        ends("5 setPolicy, lead", ARGUMENT, set, of(0, 1, 5, 9, -1, 3), 5, 1, 20);
        ends("5 setPolicy, source", ARGUMENT, set, of(0, 1, 5, 9, -1, 3), 4, -1, 0);
        refused("5 setPolicy, the source is the site itself", ThrowsTest::some, ARGUMENT, set, 0, 1, 5, 9, 1, 3);
        refused("5 setPolicy, no route leads there", ThrowsTest::some, ARGUMENT, set, 0, 0, 5, 9, 2, 3);
        refused("5 setPolicy, no site", ThrowsTest::some, ARGUMENT, set, 0, 1, 5, 9, SITES, 3);
        refused("5 setPolicy, the route leads the other way", ThrowsTest::oneRoute, ARGUMENT, set, 0, 0, 5, 9, 1, 3);
        Check.same("5 setPolicy, the route leads there", oneRoute().setPolicy(0, 1, 5, 9, 0, 3), false);
        for (int lead : new int[] {0, 21, -1, Integer.MIN_VALUE, Integer.MAX_VALUE}) {
            Check.same("5 the lead is not looked at", some().setPolicy(0, 1, 5, 9, 0, lead), true);
        }
        mixtures("5 setPolicy", ThrowsTest::some, false, set, of(0, 1, 5, 9, -1, 3), of(2, 3, -1, 1000, -2, 0), "iiaaaa");
        mixtures("5 setPolicy", ThrowsTest::some, false, set, of(0, 1, 5, 9, -1, 3), of(-1, -1, 1000, 4, 7, 21),
                "iiaaaa");
    }

    private static Granary oneRoute() {
        Granary g = new Granary();
        g.addItem(9, 9, 9);
        g.addSite(99);
        g.addSite(99);
        g.setRoute(0, 1, 2);
        return g;
    }

    private static void lotsAndOrders() {
        Asked receive = (g, a) -> g.receive(a[0], a[1], a[2], a[3]);
        ends("6 receive, item", INDEX, receive, of(0, 0, 5, 5), 0, 0, ITEMS - 1);
        ends("6 receive, site", INDEX, receive, of(0, 0, 5, 5), 1, 0, SITES - 1);
        ends("6 receive, units", ARGUMENT, receive, of(0, 2, 5, 5), 2, 1, 999);
        ends("6 receive, days", ARGUMENT, receive, of(0, 0, 5, 5), 3, 0, 99);
        mixtures("6 receive", ThrowsTest::some, false, receive, of(0, 0, 5, 5), of(-1, 3, 0, 100), "iiaa");
        mixtures("6 receive, no room", ThrowsTest::some, true, receive, of(0, 0, 999, 5), of(2, -1, 1000, -1), "iiaa");
        mixtures("6 receive, 200 lots", ThrowsTest::allLots, true, receive, of(0, 2, 1, 5), of(2, 3, 0, 100), "iiaa");
        Asked order = (g, a) -> g.order(a[0], a[1], a[2], a[3], a[4], a[5]);
        int[] fine = {0, 0, 5, 5, 5, 5};
        ends("7 order, item", INDEX, order, fine, 0, 0, ITEMS - 1);
        ends("7 order, site", INDEX, order, fine, 1, 0, SITES - 1);
        ends("7 order, units", ARGUMENT, order, fine, 2, 1, 99);
        ends("7 order, due", ARGUMENT, order, fine, 3, 0, 60);
        ends("7 order, rank", ARGUMENT, order, fine, 4, 0, 9);
        ends("7 order, keep", ARGUMENT, order, fine, 5, 0, 20);
        mixtures("7 order", ThrowsTest::some, false, order, fine, of(2, 3, 0, -1, -1, -1), "iiaaaa");
        mixtures("7 order, there are 60", ThrowsTest::allOrders, true, order, fine, of(-1, -1, 100, 61, 10, 21), "iiaaaa");
        Asked cancel = (g, a) -> g.cancel(a[0]);
        Asked ship = (g, a) -> g.ship(a[0]);
        ends("8 cancel, order", INDEX, cancel, of(0), 0, 0, ORDERS - 1);
        ends("10 ship, order", INDEX, ship, of(0), 0, 0, ORDERS - 1);
        refused("8 cancel, it is cancelled", ThrowsTest::some, STATE, cancel, 2);
        refused("8 cancel, it is shipped", ThrowsTest::some, STATE, cancel, 3);
        refused("10 ship, it has not as many", ThrowsTest::some, STATE, ship, 1);
        refused("10 ship, it is cancelled", ThrowsTest::some, STATE, ship, 2);
        refused("10 ship, it is shipped", ThrowsTest::some, STATE, ship, 3);
    }

    private static Granary allLots() {
        Granary g = some();
        for (int lot = LOTS; lot < 200; lot++) {
            g.receive(lot % 2, 2, 1, lot % 30);
        }
        return g;
    }

    private static Granary allOrders() {
        Granary g = some();
        for (int order = ORDERS; order < 60; order++) {
            g.order(order % 2, order % 3, 1, order % 20, order % 10, 0);
        }
        return g;
    }

    private static void daysAndSending() {
        ends("11 pass, days", ARGUMENT, (g, a) -> g.pass(a[0]), of(5), 0, 1, 30);
        Asked send = (g, a) -> g.send(a[0], a[1], a[2], a[3]);
        ends("12 send, item", INDEX, send, of(0, 0, 1, 5), 0, 0, ITEMS - 1);
        ends("12 send, from", INDEX, send, of(0, 0, 1, 5), 1, 0, SITES - 1, 1);
        ends("12 send, to", INDEX, send, of(0, 1, 0, 5), 2, 0, SITES - 1, 1);
        ends("12 send, units", ARGUMENT, send, of(0, 0, 1, 5), 3, 1, 999);
        refused("12 send, no route", ThrowsTest::some, ARGUMENT, send, 0, 0, 2, 5);
        refused("12 send, no route", ThrowsTest::some, ARGUMENT, send, 0, 2, 0, 5);
        refused("12 send, the route leads the other way", ThrowsTest::oneRoute, ARGUMENT, send, 0, 1, 0, 5);
        for (int site = 0; site < SITES; site++) {
            refused("12 send, to itself", ThrowsTest::some, ARGUMENT, send, 0, site, site, 5);
        }
        mixtures("12 send", ThrowsTest::some, false, send, of(0, 0, 1, 5), of(-1, -1, -1, 0), "iiia");
        mixtures("12 send", ThrowsTest::some, false, send, of(0, 0, 1, 5), of(2, 3, 3, 1000), "iiia");
        mixtures("12 send, no route", ThrowsTest::some, false, send, of(0, 0, 1, 5), of(2, 0, 2, 0), "iiaa");
        ends("13 balance, item", INDEX, (g, a) -> g.balance(a[0]), of(0), 0, 0, ITEMS - 1);
    }

    /** As above, but for an argument that is fine at both ends only when the one between them is left out. */
    private static void ends(String name, Class<? extends RuntimeException> kind, Asked call, int[] a, int at,
            int least, int most, int leftOut) {
        ends(name, kind, call, a, at, least, most);
        int[] b = a.clone();
        b[at] = leftOut;
        refused(name, ThrowsTest::some, ARGUMENT, call, b);
    }

    /** A question: like ends, and an answer leaves all as it was, too. */
    private static void question(String name, Asked call, int[] a, int[] least, int[] most, String kinds) {
        int[] below = new int[a.length];
        int[] above = new int[a.length];
        for (int at = 0; at < a.length; at++) {
            ends(name, kinds.charAt(at) == 'i' ? INDEX : ARGUMENT, call, a, at, least[at], most[at]);
            for (int end : new int[] {least[at], most[at]}) {
                int[] b = a.clone();
                b[at] = end;
                refused(name + ", answered,", ThrowsTest::some, null, call, b);
            }
            below[at] = least[at] - 1;
            above[at] = most[at] + 1;
        }
        mixtures(name, ThrowsTest::some, false, call, a, below, kinds);
        mixtures(name, ThrowsTest::some, false, call, a, above, kinds);
    }

    private static void askingWhatThereIs() {
        question("20 ofLot", (g, a) -> g.ofLot(a[0], a[1]), of(1, 2), of(0, 0), of(LOTS - 1, 4), "ia");
        question("21 ofOrder", (g, a) -> g.ofOrder(a[0], a[1]), of(1, 2), of(0, 0), of(ORDERS - 1, 4), "ia");
        question("22 reserved", (g, a) -> g.reserved(a[0], a[1]), of(1, 2), of(0, 0), of(ORDERS - 1, LOTS - 1), "ii");
        question("23 ofTransport", (g, a) -> g.ofTransport(a[0], a[1]), of(1, 2), of(0, 0), of(TRANSPORTS - 1, 5), "ia");
        question("24 route", (g, a) -> g.route(a[0], a[1]), of(1, 1), of(0, 0), of(SITES - 1, SITES - 1), "ii");
        question("25 hasPolicy", (g, a) -> g.hasPolicy(a[0], a[1]), of(1, 1), of(0, 0), of(ITEMS - 1, SITES - 1), "ii");
    }

    private static void askingStocks() {
        int[] some = {1, 1};
        int[] first = {0, 0};
        int[] last = {ITEMS - 1, SITES - 1};
        question("26 onHand", (g, a) -> g.onHand(a[0], a[1]), some, first, last, "ii");
        question("27 free", (g, a) -> g.free(a[0], a[1]), some, first, last, "ii");
        question("28 underWay", (g, a) -> g.underWay(a[0], a[1]), some, first, last, "ii");
        question("29 position", (g, a) -> g.position(a[0], a[1]), some, first, last, "ii");
        question("30 roomLeft", (g, a) -> g.roomLeft(a[0]), of(1), of(0), of(SITES - 1), "i");
        question("31 expiring", (g, a) -> g.expiring(a[0], a[1], a[2]), of(1, 1, 9), of(0, 0, 0),
                of(ITEMS - 1, SITES - 1, 99), "iia");
        question("32 couldTake", (g, a) -> g.couldTake(a[0], a[1], a[2]), of(1, 1, 9), of(0, 0, 1),
                of(ITEMS - 1, SITES - 1, 99), "iia");
    }

    private static void whatWasCounted() {
        question("33 account", (g, a) -> g.account(a[0]), of(1), of(0), of(4), "a");
        question("34 rate", (g, a) -> g.rate(a[0], a[1], a[2]), of(1, 1, 9), of(0, 0, 1),
                of(ITEMS - 1, SITES - 1, 60), "iia");
        Asked pointFor = (g, a) -> g.pointFor(a[0], a[1], a[2], a[3]);
        question("35 pointFor", pointFor, of(1, 1, 60, 1), of(0, 0, 1, 1), of(ITEMS - 1, SITES - 1, 60, 60), "iiaa");
        question("35 pointFor, bridged", pointFor, of(1, 1, 9, 5), of(0, 0, 5, 1), of(ITEMS - 1, SITES - 1, 60, 9), "iiaa");
        question("35 pointFor, both 1", pointFor, of(1, 1, 1, 1), of(0, 0, 1, 1), of(ITEMS - 1, SITES - 1, 60, 1), "iiaa");
        question("36 classOf", (g, a) -> g.classOf(a[0]), of(1), of(0), of(ITEMS - 1), "i");
        Check.leavesAsItWas("37 punctuality", null, ThrowsTest::some, g -> g.punctuality());
    }

    private static void balancing() {
        int[] last = {ITEMS - 1, SITES - 1};
        question("38 lacks", (g, a) -> g.lacks(a[0], a[1]), of(1, 1), of(0, 0), last, "ii");
        question("39 spares", (g, a) -> g.spares(a[0], a[1]), of(1, 1), of(0, 0), last, "ii");
        question("40 planned", (g, a) -> g.planned(a[0], a[1], a[2]), of(1, 1, 1), of(0, 0, 0),
                of(ITEMS - 1, SITES - 1, SITES - 1), "iii");
    }

    private static void whatWouldBe() {
        question("41 onHandIn", (g, a) -> g.onHandIn(a[0], a[1], a[2]), of(1, 1, 9), of(0, 0, 1),
                of(ITEMS - 1, SITES - 1, 30), "iia");
        question("42 firstShort", (g, a) -> g.firstShort(a[0]), of(9), of(1), of(30), "a");
        Asked shippedOn = (g, a) -> g.shippedOn(a[0], a[1]);
        question("43 shippedOn", shippedOn, of(1, 9), of(0, 1), of(ORDERS - 1, 30), "ia");
        question("43 shippedOn, cancelled", shippedOn, of(2, 9), of(0, 1), of(ORDERS - 1, 30), "ia");
        question("43 shippedOn, shipped already", shippedOn, of(3, 9), of(0, 1), of(ORDERS - 1, 30), "ia");
        Check.leavesAsItWas("44 digest", null, ThrowsTest::some, g -> g.digest());
    }

    /** A new object has no item, site, lot, order or transport, so none has the number 0. */
    private static void withoutAnything() {
        Asked[] calls = {(g, a) -> g.setRoute(0, 0, 1), (g, a) -> g.setPolicy(0, 0, 0, 0, -1, 1),
            (g, a) -> g.receive(0, 0, 1, 1), (g, a) -> g.order(0, 0, 1, 1, 1, 1), (g, a) -> g.cancel(0),
            (g, a) -> g.ship(0), (g, a) -> g.send(0, 0, 0, 1), (g, a) -> g.balance(0), (g, a) -> g.ofLot(0, 0),
            (g, a) -> g.ofOrder(0, 0), (g, a) -> g.reserved(0, 0), (g, a) -> g.ofTransport(0, 0),
            (g, a) -> g.route(0, 0), (g, a) -> g.hasPolicy(0, 0), (g, a) -> g.onHand(0, 0), (g, a) -> g.free(0, 0),
            (g, a) -> g.underWay(0, 0), (g, a) -> g.position(0, 0), (g, a) -> g.roomLeft(0),
            (g, a) -> g.expiring(0, 0, 1), (g, a) -> g.couldTake(0, 0, 1), (g, a) -> g.rate(0, 0, 1),
            (g, a) -> g.pointFor(0, 0, 1, 1), (g, a) -> g.classOf(0), (g, a) -> g.lacks(0, 0),
            (g, a) -> g.spares(0, 0), (g, a) -> g.planned(0, 0, 0), (g, a) -> g.onHandIn(0, 0, 1),
            (g, a) -> g.shippedOn(0, 1)};
        for (int call = 0; call < calls.length; call++) {
            refused("the call " + call + " of a new object", Granary::new, INDEX, calls[call]);
        }
        Asked[] siteAlone = {(g, a) -> g.setPolicy(0, 0, 0, 0, -1, 1), (g, a) -> g.receive(0, 0, 1, 1),
            (g, a) -> g.order(0, 0, 1, 1, 1, 1), (g, a) -> g.balance(0), (g, a) -> g.onHand(0, 0),
            (g, a) -> g.planned(0, 0, 0), (g, a) -> g.classOf(0)};
        for (int call = 0; call < siteAlone.length; call++) {
            refused("the call " + call + " without items", ThrowsTest::noItems, INDEX, siteAlone[call]);
        }
    }

    private static Granary noItems() {
        Granary g = new Granary();
        g.addSite(5);
        return g;
    }
}
