/** Section 5 of the document at its edges: what a day does, part by part, and in which order. */
public final class DayEdgesTest {
    public static void main(String[] args) {
        passEachDay();
        lotsExpireBelowTheDay();
        expiredUnitsLeaveTheirOrders();
        expiredUnitsLeaveEachOrder();
        expiredMakeRoom();
        shippedMakeRoomTooLate();
        roomForArrivals();
        arrivalsByNumbers();
        roomIsThatOfAllItems();
        arrivalsAtTwoHundredLots();
        arrivalsAreReservedTheSameDay();
        dueDayNotAboveTheDay();
        asManyAsItIsForIsShipped();
        reviewsBehindShipping();
        reviewsByItemsOfEachBySites();
        holdingComesLast();
        nothingOnTheDayItself();
        Check.end();
    }

    private static Granary two() {
        Granary g = new Granary();
        g.addItem(9, 3, 1);
        g.addItem(9, 7, 1);
        g.addSite(100);
        g.addSite(20);
        g.setRoute(0, 1, 2);
        return g;
    }

    /** "The DAY becomes 1 more." and pass(): 1 to 30 days at once are that many days. */
    private static void passEachDay() {
        for (int days : new int[] {1, 2, 29, 30}) {
            Granary at = two();
            Granary single = two();
            for (Granary g : new Granary[] {at, single}) {
                g.receive(0, 0, 60, 12);
                g.setPolicy(0, 1, 5, 9, 0, 0);
                g.setPolicy(0, 0, 30, 50, -1, 4);
                g.order(0, 1, 7, 11, 0, 0);
                g.order(0, 1, 9, 17, 0, 3);
            }
            Check.same("pass", at.pass(days), days);
            for (int gone = 1; gone <= days; gone++) {
                Check.same("a day", single.pass(1), gone);
            }
            Check.same("so many days at once, or one by one", at.digest(), single.digest());
        }
    }

    /** (a) "LOTS whose last day is below the DAY are WASTED" */
    private static void lotsExpireBelowTheDay() {
        Granary g = two();
        g.receive(0, 0, 5, 0);
        g.receive(0, 0, 6, 1);
        g.receive(0, 0, 7, 2);
        int[] left = {18, 13, 7, 0, 0};
        int[] waste = {0, 15, 33, 54, 54};
        for (int day = 0; day < 5; day++) {
            Check.same("on the day " + day, g.onHand(0, 0), left[day]);
            Check.same("wasted till the day " + day, g.account(1), waste[day]);
            g.pass(1);
        }
    }

    /** (a) "their units are taken away, those that are RESERVED from their orders, too" */
    private static void expiredUnitsLeaveTheirOrders() {
        Granary g = two();
        g.receive(0, 0, 6, 2);
        g.order(0, 0, 4, 2, 0, 0);
        g.order(0, 0, 9, 1, 1, 0);
        g.order(0, 0, 3, 2, 2, 0);
        g.pass(1);
        Check.same("the day ahead", g.ofOrder(1, 2), 2);
        g.cancel(0);
        g.pass(1);
        Check.same("reserved anew by the day", g.ofOrder(1, 2), 6);
        g.receive(0, 0, 5, 6);
        g.receive(0, 0, 7, 7);
        g.pass(1);
        Check.same("the reserved ones are wasted", g.account(1), 6 * 3);
        Check.same("taken from their order", g.reserved(1, 0), 0);
        Check.same("the lot has none", g.ofLot(0, 2), 0);
        Check.same("the lot has none reserved", g.ofLot(0, 3), 0);
        Check.same("others are reserved in their place on the same day, and shipped", g.ofOrder(1, 4), 3);
        Check.same("the other order too", g.ofOrder(2, 4), 3);
        Check.same("what is left", g.onHand(0, 0), 0);
    }

    private static void expiredUnitsLeaveEachOrder() {
        Granary g = two();
        for (int order = 0; order < 3; order++) {
            g.receive(0, 0, 4 - order, 2);
            g.order(0, 0, 99, 2 - order / 2, 0, 0);
        }
        g.pass(2);
        for (int order = 0; order < 3; order++) {
            Check.same("on the last day, order " + order, g.ofOrder(order, 2), 4 - order);
            Check.same("on the last day, lot " + order, g.ofLot(order, 3), 4 - order);
        }
        g.pass(1);
        for (int order = 0; order < 3; order++) {
            Check.same("behind it, order " + order, g.ofOrder(order, 2), 0);
            Check.same("behind it, order " + order, g.reserved(order, order), 0);
            Check.same("behind it, lot " + order, g.ofLot(order, 3), 0);
        }
        Check.same("wasted", g.account(1), 9 * 3);
    }

    /** (a) is ahead of (b): what expires makes room for what arrives on the same day. */
    private static void expiredMakeRoom() {
        for (int last = 1; last <= 2; last++) {
            Granary g = two();
            g.receive(1, 1, 20, last);
            g.receive(0, 0, 8, 50);
            g.send(0, 0, 1, 8);
            g.pass(2);
            Check.same("the last day is " + last, g.onHand(0, 1), last == 1 ? 8 : 0);
            Check.same("wasted", g.account(1), last == 1 ? 20 * 7 : 8 * 3);
        }
    }

    /** (b) is ahead of (d): what is shipped on that day makes no room. */
    private static void shippedMakeRoomTooLate() {
        Granary g = two();
        g.receive(1, 1, 20, 9);
        g.order(1, 1, 20, 2, 0, 0);
        g.receive(0, 0, 8, 50);
        g.send(0, 0, 1, 8);
        g.pass(2);
        Check.same("shipped", g.roomLeft(1), 20);
        Check.same("too late for what arrived", g.account(1), 8 * 3);
    }

    /** (b) "as many units as the site has room for then become a new LOT, if there are any; the others are WASTED" */
    private static void roomForArrivals() {
        int[][] roomTaken = {{9, 8}, {8, 8}, {7, 7}, {1, 1}, {0, 0}};
        for (int[] r : roomTaken) {
            Granary g = two();
            g.receive(1, 1, 20 - r[0], 50);
            g.receive(0, 0, 8, 50);
            g.send(0, 0, 1, 8);
            int lots = g.lots();
            g.pass(2);
            String name = "room for " + r[0];
            Check.same(name, g.onHand(0, 1), r[1]);
            Check.same(name + ", a new lot", g.lots(), r[1] == 0 ? lots : lots + 1);
            Check.same(name + ", wasted", g.account(1), (8 - r[1]) * 3);
            Check.same(name + ", arrived", g.ofTransport(0, 5), 0);
            Check.same(name + ", its units as it was made", g.ofTransport(0, 2), 8);
            Check.same(name + ", none under way", g.underWay(0, 1), 0);
            g.pass(1);
            Check.same(name + ", wasted once", g.account(1), (8 - r[1]) * 3);
        }
    }

    /** (b) "by numbers, each one by itself" */
    private static void arrivalsByNumbers() {
        Granary g = two();
        g.addSite(100);
        g.setRoute(2, 1, 1);
        g.receive(0, 0, 12, 50);
        g.receive(0, 0, 3, 60);
        g.receive(1, 2, 9, 70);
        g.send(0, 0, 1, 15);
        g.pass(1);
        g.send(1, 2, 1, 9);
        g.pass(1);
        Check.same("the first one, all", g.ofLot(3, 2), 12);
        Check.same("the second one, all", g.ofLot(4, 2), 3);
        Check.same("the third one, as many as there is room for", g.ofLot(5, 2), 5);
        Check.same("each with its last day", g.ofLot(3, 4), 50);
        Check.same("each with its last day", g.ofLot(4, 4), 60);
        Check.same("each with its last day", g.ofLot(5, 4), 70);
        Check.same("the others are wasted", g.account(1), 4 * 7);
    }

    /** (b) "all its LOTS, of all items, counted" */
    private static void roomIsThatOfAllItems() {
        Granary g = two();
        g.receive(1, 1, 6, 50);
        g.receive(0, 1, 7, 50);
        g.receive(0, 0, 50, 50);
        g.send(0, 0, 1, 10);
        g.pass(2);
        Check.same("room was for 7", g.onHand(0, 1), 14);
        Check.same("three are wasted", g.account(1), 9);
        Check.same("another site does not count", g.roomLeft(0), 60);
    }

    /** (b) "and all of them, if there are 200 LOTS" */
    private static void arrivalsAtTwoHundredLots() {
        for (int there = 198; there <= 200; there++) {
            Granary g = new Granary();
            g.addItem(9, 3, 1);
            g.addItem(9, 7, 1);
            g.addSite(9999);
            g.addSite(20);
            g.setRoute(0, 1, 2);
            g.receive(0, 0, 8, 50);
            g.receive(0, 0, 5, 51);
            g.send(0, 0, 1, 13);
            for (int lot = 2; lot < there; lot++) {
                g.receive(1, 0, 1, 1);
            }
            g.pass(2);
            int[] due = {13, 8, 0};
            Check.same("arrived with " + there, g.onHand(0, 1), due[there - 198]);
            Check.same("lots", g.lots(), 200);
            Check.same("the others are wasted", g.account(1), (13 - due[there - 198]) * 3 + (there - 2) * 7);
            Check.same("both have arrived", g.ofTransport(0, 5) + g.ofTransport(1, 5), 0);
        }
    }

    /** (b) is ahead of (c), and (c) of (d) */
    private static void arrivalsAreReservedTheSameDay() {
        Granary g = two();
        g.receive(0, 0, 8, 50);
        g.send(0, 0, 1, 8);
        g.order(0, 1, 8, 2, 0, 0);
        g.order(0, 1, 1, 3, 0, 0);
        g.pass(2);
        Check.same("arrived, reserved and shipped on its due day", g.ofOrder(0, 4), 2);
        Check.same("no unit was short", g.account(2), 0);
        Check.same("nothing is left for the other one", g.ofOrder(1, 2), 0);
    }

    /** (d) "whose due day is not above the DAY" */
    private static void dueDayNotAboveTheDay() {
        Granary g = two();
        g.receive(0, 0, 9, 50);
        g.order(0, 0, 1, 2, 0, 0);
        g.order(0, 0, 1, 3, 0, 0);
        g.order(0, 0, 1, 4, 0, 0);
        g.pass(2);
        g.order(0, 0, 1, 0, 0, 0);
        g.pass(1);
        int[] shipped = {2, 3, -1, 3};
        for (int order = 0; order < 4; order++) {
            Check.same("order " + order, g.ofOrder(order, 4), shipped[order]);
        }
        Granary lacking = two();
        lacking.order(0, 0, 2, 2, 0, 0);
        int[] shortage = {0, 0, 2, 4, 6};
        for (int day = 0; day < 5; day++) {
            Check.same("short till the day " + day, lacking.account(2), shortage[day]);
            lacking.pass(1);
        }
    }

    /** (d) "one that has as many RESERVED as it is for is SHIPPED; of others what they lack is SHORT" */
    private static void asManyAsItIsForIsShipped() {
        for (int units = 7; units <= 9; units++) {
            Granary g = two();
            g.receive(0, 0, 8, 50);
            g.order(0, 0, units, 1, 0, 0);
            g.pass(1);
            Check.same("for " + units + " of 8", g.ofOrder(0, 0), units <= 8 ? 1 : 0);
            Check.same("for " + units + " of 8, short", g.account(2), units <= 8 ? 0 : 1);
            Check.same("for " + units + " of 8, stay", g.onHand(0, 0), units <= 8 ? 8 - units : 8);
            Check.same("for " + units + " of 8, earned", g.account(4), units <= 8 ? units * 6 : 0);
        }
        Granary none = two();
        none.order(0, 0, 9, 1, 0, 0);
        none.pass(1);
        Check.same("all of it is short", none.account(2), 9);
    }

    /** (e) sees what the parts ahead of it left: what was shipped counts no more, neither the order nor its units. */
    private static void reviewsBehindShipping() {
        Granary g = two();
        g.receive(0, 0, 10, 50);
        g.setPolicy(0, 0, 4, 12, -1, 3);
        g.order(0, 0, 6, 1, 0, 0);
        g.pass(1);
        Check.same("the position is 4 behind the shipping", g.ofTransport(0, 2), 8);
        Granary arrived = two();
        arrived.receive(0, 0, 10, 50);
        arrived.send(0, 0, 1, 4);
        arrived.setPolicy(0, 1, 4, 12, -1, 3);
        arrived.pass(1);
        Check.same("what is under way counts", arrived.ofTransport(1, 2), 8);
        Granary gone = two();
        gone.receive(0, 0, 10, 0);
        gone.setPolicy(0, 0, 4, 12, -1, 3);
        gone.pass(1);
        Check.same("what is wasted on that day does not", gone.ofTransport(0, 2), 12);
    }

    /** (e) "POLICIES are REVIEWED, by items, of each by sites" */
    private static void reviewsByItemsOfEachBySites() {
        Granary ahead = two();
        ahead.setRoute(1, 0, 2);
        ahead.receive(0, 1, 9, 50);
        ahead.setPolicy(0, 0, 5, 6, 1, 0);
        ahead.setPolicy(0, 1, 5, 10, -1, 3);
        ahead.pass(1);
        Check.same("site 0 takes six from site 1", ahead.underWay(0, 0), 6);
        Check.same("then site 1 has three, and wants seven", ahead.underWay(0, 1), 7);
        Granary behind = two();
        behind.receive(0, 0, 9, 50);
        behind.setPolicy(0, 0, 5, 10, -1, 3);
        behind.setPolicy(0, 1, 5, 6, 0, 0);
        behind.pass(1);
        Check.same("site 0 has nine still", behind.underWay(0, 0), 0);
        Check.same("then site 1 takes six", behind.underWay(0, 1), 6);
        behind.pass(1);
        Check.same("seen on the next day", behind.underWay(0, 0), 7);
        Granary numbers = two();
        for (int at = 3; at >= 0; at--) {
            numbers.setPolicy(at / 2, at % 2, 0, 1 + at, -1, 1);
        }
        numbers.pass(1);
        for (int at = 0; at < 4; at++) {
            Check.same("by items, of each by sites", numbers.ofTransport(at, 2), 1 + at);
        }
    }

    /** (f) "HOLDING becomes more by the price of each unit that is in a LOT": what has been shipped or sent is not. */
    private static void holdingComesLast() {
        Granary g = two();
        g.receive(0, 0, 10, 50);
        g.receive(1, 0, 2, 0);
        g.order(0, 0, 3, 1, 0, 0);
        g.order(0, 0, 1, 9, 0, 0);
        g.setPolicy(0, 1, 0, 4, 0, 0);
        Check.same("nothing without a day", g.account(0), 0);
        g.pass(1);
        Check.same("10 less 3 shipped, less 4 sent", g.account(0), 3 * 3);
        g.pass(1);
        Check.same("4 are under way, the reserved one is there", g.account(0), 9 + 9);
        g.pass(1);
        Check.same("4 arrived", g.account(0), 18 + 7 * 3);
    }

    /** An order that is due today, a lot, a policy: none does anything before a day goes by. */
    private static void nothingOnTheDayItself() {
        Granary g = two();
        g.order(0, 0, 5, 0, 0, 0);
        g.receive(0, 0, 5, 3);
        g.setPolicy(0, 0, 9, 9, -1, 1);
        Check.same("nothing is reserved by receiving", g.ofOrder(0, 2), 0);
        Check.same("nothing is short", g.account(2), 0);
        Check.same("nothing is ordered", g.transports(), 0);
        g.pass(1);
        Check.same("shipped on the next day", g.ofOrder(0, 4), 1);
        Check.same("ordered on the next day", g.ofTransport(0, 2), 9);
    }
}
