/** Section 6 of the document, and the promises 31 to 37, at their edges: what counts on which day, and to what. */
public final class CountedEdgesTest {
    public static void main(String[] args) {
        accountsAtFirst();
        holdingOfEachDay();
        wasteOfEachKind();
        shortageDayByDay();
        spentAsOrdered();
        earnedTwiceThePrice();
        useOnADay();
        rateOverDays();
        daysBelowZero();
        pointOfEachWindow();
        classAtTheEdges();
        classWithoutAnythingEarned();
        classOfSeveral();
        punctualityAtTheEdges();
        punctualityIsNotCut();
        expiringAtTheEdges();
        couldTakeAtTheEdges();
        Check.end();
    }

    private static Granary two() {
        Granary g = new Granary();
        g.addItem(9, 3, 1);
        g.addItem(9, 7, 1);
        g.addSite(500);
        g.addSite(20);
        g.setRoute(0, 1, 2);
        return g;
    }

    private static void accounts(String name, Granary g, int... due) {
        for (int what = 0; what <= 4; what++) {
            Check.same(name + ", account " + what, g.account(what), due[what]);
        }
    }

    private static void accountsAtFirst() {
        accounts("33 a new object", new Granary(), 0, 0, 0, 0, 0);
        Granary g = two();
        g.pass(30);
        accounts("33 nothing there", g, 0, 0, 0, 0, 0);
    }

    /** HOLDING: on each day that goes by, of all items and sites; not of what is under way */
    private static void holdingOfEachDay() {
        Granary g = two();
        g.receive(0, 0, 10, 50);
        g.receive(1, 1, 2, 50);
        accounts("33 as received", g, 0, 0, 0, 44, 0);
        g.pass(1);
        accounts("33 a day", g, 44, 0, 0, 44, 0);
        g.send(0, 0, 1, 4);
        g.pass(1);
        accounts("33 four under way", g, 44 + 32, 0, 0, 44, 0);
        g.pass(2);
        accounts("33 four arrived", g, 76 + 44 + 44, 0, 0, 44, 0);
    }

    /** WASTE: "the prices of all units that were WASTED": lots that expire, and arrivals without room */
    private static void wasteOfEachKind() {
        Granary g = two();
        g.receive(0, 0, 30, 50);
        g.receive(1, 0, 2, 0);
        g.receive(1, 1, 2, 0);
        g.send(0, 0, 1, 25);
        g.pass(1);
        Check.same("33 expired at both sites", g.account(1), 28);
        g.pass(1);
        Check.same("33 five without room", g.account(1), 28 + 15);
        g.pass(20);
        Check.same("33 each unit once", g.account(1), 28 + 15);
    }

    /** SHORTAGE: "the units that were SHORT, day by day": units, not prices */
    private static void shortageDayByDay() {
        Granary g = two();
        g.order(0, 0, 5, 1, 0, 0);
        g.order(1, 0, 2, 2, 0, 0);
        g.order(1, 1, 9, 3, 0, 0);
        int[] due = {0, 5, 12, 28, 44};
        for (int day = 0; day < 5; day++) {
            Check.same("33 till the day " + day, g.account(2), due[day]);
            g.pass(1);
        }
        g.cancel(0);
        g.cancel(1);
        g.cancel(2);
        g.pass(3);
        Check.same("33 what was short stays counted, what is cancelled is not short", g.account(2), 60);
    }

    /** SPENT: "ordered from outside (as they are ordered), or received"; sending from a site costs nothing */
    private static void spentAsOrdered() {
        Granary g = two();
        g.receive(1, 0, 9, 50);
        Check.same("33 received", g.account(3), 63);
        g.setPolicy(0, 0, 0, 5, -1, 4);
        g.setPolicy(1, 1, 0, 5, 0, 4);
        g.pass(1);
        Check.same("33 as it is ordered", g.account(3), 63 + 15);
        g.pass(4);
        Check.same("33 not as it arrives", g.account(3), 63 + 15);
        g.send(1, 0, 1, 2);
        g.setPolicy(1, 0, 0, 0, -1, 1);
        g.setPolicy(1, 1, 40, 40, -1, 1);
        g.balance(1);
        Check.same("33 not by sending", g.account(3), 63 + 15);
    }

    /** EARNED: "for each unit that was SHIPPED, twice its price" */
    private static void earnedTwiceThePrice() {
        Granary g = two();
        g.receive(0, 0, 9, 50);
        g.receive(1, 0, 9, 50);
        g.order(0, 0, 1, 9, 0, 0);
        g.order(1, 0, 4, 1, 0, 0);
        g.order(1, 0, 4, 9, 0, 0);
        Check.same("33 not by reserving", g.account(4), 0);
        g.ship(0);
        Check.same("33 shipped at once", g.account(4), 6);
        g.pass(1);
        Check.same("33 shipped by the day", g.account(4), 6 + 56);
        g.cancel(2);
        Check.same("33 not by cancelling", g.account(4), 62);
    }

    /** "how many units the orders for it from there, that are due on that day, and not CANCELLED, are for" */
    private static void useOnADay() {
        Granary g = two();
        g.receive(0, 0, 9, 50);
        g.order(0, 0, 1, 4, 0, 0);
        g.order(0, 0, 2, 5, 0, 0);
        g.order(0, 0, 4, 5, 0, 0);
        g.order(0, 0, 8, 6, 0, 0);
        g.order(0, 0, 16, 5, 0, 0);
        g.order(1, 0, 32, 5, 0, 0);
        g.order(0, 1, 64, 5, 0, 0);
        g.ship(1);
        g.cancel(4);
        int[] due = {0, 0, 0, 0, 1, 6, 8, 0};
        for (int day = 0; day < 8; day++) {
            Check.same("34 use on the day " + day, g.rate(0, 0, 1), due[day]);
            Check.same("35 use on the day " + day, g.pointFor(0, 0, 1, 1), due[day]);
            g.pass(1);
        }
        Check.same("34 another item", g.rate(1, 0, 4), 32);
        Check.same("34 another site", g.rate(0, 1, 4), 64);
    }

    /** "the sum of its USE on the DAY and the n - 1 days ahead of it" */
    private static void rateOverDays() {
        Granary g = two();
        g.order(0, 0, 1, 0, 0, 0);
        g.order(0, 0, 2, 1, 0, 0);
        g.order(0, 0, 4, 59, 0, 0);
        g.order(0, 0, 8, 60, 0, 0);
        g.pass(30);
        g.pass(30);
        Check.same("34 n = 1", g.rate(0, 0, 1), 8);
        Check.same("34 n = 2", g.rate(0, 0, 2), 12);
        Check.same("34 n = 3", g.rate(0, 0, 3), 12);
        Check.same("34 n = 59", g.rate(0, 0, 59), 12);
        Check.same("34 n = 60", g.rate(0, 0, 60), 14);
        Check.same("35 n = 60", g.pointFor(0, 0, 60, 60), 14);
        Check.same("35 n = 59", g.pointFor(0, 0, 59, 59), 12);
        Check.same("35 n = 60, bridged 59", g.pointFor(0, 0, 60, 59), 12);
        g.order(0, 0, 16, 0, 0, 0);
        g.order(0, 0, 32, 1, 0, 0);
        Check.same("34 due today, not tomorrow", g.rate(0, 0, 1), 24);
        g.pass(1);
        Check.same("34 a day later", g.rate(0, 0, 60), 4 + 8 + 16 + 32);
    }

    /** "(days below 0 have none)" */
    private static void daysBelowZero() {
        Granary g = two();
        g.order(0, 0, 5, 0, 0, 0);
        g.order(0, 0, 6, 1, 0, 0);
        Check.same("34 on the day 0", g.rate(0, 0, 1), 5);
        Check.same("34 on the day 0", g.rate(0, 0, 60), 5);
        Check.same("35 on the day 0", g.pointFor(0, 0, 60, 60), 5);
        Check.same("35 on the day 0", g.pointFor(0, 0, 60, 1), 5);
        g.pass(1);
        Check.same("34 on the day 1", g.rate(0, 0, 2), 11);
        Check.same("34 on the day 1", g.rate(0, 0, 3), 11);
        Check.same("35 on the day 1", g.pointFor(0, 0, 3, 2), 11);
    }

    /** "the greatest sum of its USE on so many days one behind the other, of the DAY and the n - 1 days ahead of it" */
    private static void pointOfEachWindow() {
        int[][] uses = {{9, 9, 1, 1, 1}, {1, 9, 9, 1, 1}, {1, 1, 1, 9, 9}, {9, 1, 9, 1, 9}};
        int[][] dueByBridged = {{9, 18, 19, 20, 21}, {9, 18, 19, 20, 21}, {9, 18, 19, 20, 21}, {9, 10, 19, 20, 29}};
        for (int i = 0; i < uses.length; i++) {
            Granary g = two();
            g.order(0, 0, 90, 2, 0, 0);
            for (int day = 0; day < 5; day++) {
                g.order(0, 0, uses[i][day], 3 + day, 0, 0);
            }
            g.order(0, 0, 80, 8, 0, 0);
            g.pass(7);
            for (int bridged = 1; bridged <= 5; bridged++) {
                Check.same("35 case " + i + ", bridged " + bridged, g.pointFor(0, 0, 5, bridged),
                        dueByBridged[i][bridged - 1]);
            }
            Check.same("35 case " + i + ", a day more", g.pointFor(0, 0, 6, 1), 90);
            Check.same("35 case " + i + ", the DAY alone", g.pointFor(0, 0, 1, 1), uses[i][4]);
            Check.same("35 another site", g.pointFor(0, 1, 5, 3), 0);
            g.order(0, 1, 6, 0, 0, 0);
            g.order(1, 0, 7, 0, 0, 0);
            Check.same("35 another site", g.pointFor(0, 1, 5, 3), 6);
            Check.same("35 another item", g.pointFor(1, 0, 5, 3), 7);
            Check.same("35 both", g.pointFor(1, 1, 5, 3), 0);
        }
    }

    private static Granary earned(int price, int... units) {
        Granary g = new Granary();
        g.addSite(9999);
        for (int item = 0; item < units.length; item++) {
            g.addItem(10, price, 1);
            for (int left = units[item]; left > 0; left -= 99) {
                int part = Math.min(left, 99);
                g.receive(item, 0, part, 9);
                g.ship(g.order(item, 0, part, 0, 0, 0));
            }
        }
        return g;
    }

    private static void classes(Granary g, int... due) {
        for (int item = 0; item < due.length; item++) {
            Check.same("36 item " + item + " of " + due.length, g.classOf(item), due[item]);
        }
    }

    /** "earned less than 80 of 100 parts of all together, of the class 1 as long as they earned less than 95" */
    private static void classAtTheEdges() {
        for (int price : new int[] {1, 99}) {
            classes(earned(price, 80, 20), 0, 1);
            classes(earned(price, 79, 21), 0, 0);
            classes(earned(price, 81, 19), 0, 1);
            classes(earned(price, 60, 20, 15, 5), 0, 0, 1, 2);
            classes(earned(price, 60, 19, 15, 6), 0, 0, 0, 1);
            classes(earned(price, 60, 20, 14, 6), 0, 0, 1, 1);
            classes(earned(price, 60, 20, 16, 4), 0, 0, 1, 2);
            classes(earned(price, 95, 5), 0, 2);
            classes(earned(price, 94, 6), 0, 1);
            classes(earned(price, 400, 99, 1), 0, 1, 2);
            classes(earned(price, 399, 100, 1), 0, 0, 2);
            classes(earned(price, 16, 16, 16, 16, 16, 20), 0, 0, 0, 0, 1, 0);
            classes(earned(price, 1, 4, 15, 80), 2, 2, 1, 0);
            classes(earned(price, 4, 1), 0, 1);
            classes(earned(price, 19, 1), 0, 2);
            classes(earned(price, 18, 1), 0, 1);
            classes(earned(price, 7, 2), 0, 0);
        }
    }

    /** "2 if nothing was EARNED at all" */
    private static void classWithoutAnythingEarned() {
        Granary g = earned(5, 0, 0, 0);
        classes(g, 2, 2, 2);
        g.receive(1, 0, 9, 9);
        g.order(1, 0, 9, 1, 0, 0);
        classes(g, 2, 2, 2);
        g.pass(1);
        classes(g, 2, 0, 2);
    }

    /** "the greatest first, of several by numbers" */
    private static void classOfSeveral() {
        classes(earned(1, 1, 1), 0, 0);
        classes(earned(1, 10, 10, 10, 10, 10), 0, 0, 0, 0, 1);
        classes(earned(1, 10, 10, 10, 10, 10, 10), 0, 0, 0, 0, 0, 1);
        classes(earned(1, 10, 40, 40, 10), 1, 0, 0, 1);
        classes(earned(1, 5, 80, 10, 5), 1, 0, 1, 2);
        classes(earned(1, 0, 5, 0), 2, 0, 2);
        Granary byPrice = new Granary();
        byPrice.addSite(999);
        byPrice.addItem(9, 1, 1);
        byPrice.addItem(9, 99, 1);
        byPrice.receive(0, 0, 20, 9);
        byPrice.receive(1, 0, 1, 9);
        byPrice.ship(byPrice.order(0, 0, 20, 0, 0, 0));
        byPrice.ship(byPrice.order(1, 0, 1, 0, 0, 0));
        classes(byPrice, 1, 0);
    }

    /** "the part that was on its due day, or ahead of it"; "1 without any" */
    private static void punctualityAtTheEdges() {
        Check.same("37 a new object", new Granary().punctuality(), 1.0);
        for (int shippedOn = 2; shippedOn <= 4; shippedOn++) {
            Granary g = two();
            g.order(0, 0, 1, 3, 0, 0);
            g.order(0, 0, 1, 0, 0, 0);
            g.cancel(1);
            g.pass(shippedOn);
            Check.same("37 without any that was shipped", g.punctuality(), 1.0);
            g.receive(0, 0, 1, 9);
            g.reserveAnew();
            g.ship(0);
            Check.same("37 due on 3, shipped on " + shippedOn, g.punctuality(), shippedOn <= 3 ? 1.0 : 0.0);
        }
    }

    /** "as a number from 0 to 1, not cut" */
    private static void punctualityIsNotCut() {
        for (int late = 0; late <= 7; late++) {
            Granary g = two();
            for (int order = 0; order < 7; order++) {
                g.order(0, 0, 1, order < late ? 1 : 5, 0, 0);
            }
            g.order(0, 0, 99, 1, 9, 0);
            g.pass(2);
            g.receive(0, 0, 7, 9);
            g.pass(3);
            Check.same("37 late " + late + " of 7", g.punctuality(), (7 - late) / 7.0);
        }
    }

    /** "a last day that is at most so many days behind the DAY" */
    private static void expiringAtTheEdges() {
        for (int days : new int[] {0, 1, 50, 98, 99}) {
            Granary g = two();
            g.pass(2);
            g.receive(0, 0, 5, days);
            g.receive(1, 0, 6, 0);
            g.receive(0, 1, 7, 0);
            g.order(0, 0, 2, 0, 0, 0);
            Check.same("31 at " + days, g.expiring(0, 0, days), 5);
            Check.same("31 another item", g.expiring(1, 0, days), 6);
            Check.same("31 another site", g.expiring(0, 1, days), 7);
            Check.same("31 both", g.expiring(1, 1, days), 0);
            if (days > 0) {
                Check.same("31 below " + days, g.expiring(0, 0, days - 1), 0);
            }
            if (days < 99) {
                Check.same("31 above " + days, g.expiring(0, 0, days + 1), 5);
            }
        }
        Granary life = new Granary();
        life.addItem(99, 1, 1);
        life.addSite(9);
        life.setPolicy(0, 0, 0, 4, -1, 1);
        life.pass(2);
        Check.same("31 on the day of arrival 99 days are left", life.expiring(0, 0, 98), 0);
        Check.same("31 on the day of arrival 99 days are left", life.expiring(0, 0, 99), 4);
    }

    /** "whether so many are FREE there, and can be used today" */
    private static void couldTakeAtTheEdges() {
        for (int units : new int[] {1, 2, 98, 99}) {
            Granary g = two();
            g.receive(0, 0, units, 0);
            g.receive(1, 0, 99, 9);
            Check.same("32 just so many", g.couldTake(0, 0, units), true);
            if (units < 99) {
                Check.same("32 one more", g.couldTake(0, 0, units + 1), false);
            }
            g.order(0, 0, 1, 0, 0, 0);
            Check.same("32 one is reserved", g.couldTake(0, 0, units), false);
            if (units > 1) {
                Check.same("32 the others are free", g.couldTake(0, 0, units - 1), true);
            }
        }
        Granary others = two();
        others.receive(1, 0, 6, 0);
        others.receive(0, 1, 7, 0);
        int[][] there = {{0, 7}, {6, 0}};
        for (int at = 0; at < 4; at++) {
            for (int units = 1; units <= 8; units++) {
                Check.same("32 item " + at / 2 + ", site " + at % 2 + ", " + units,
                        others.couldTake(at / 2, at % 2, units), units <= there[at / 2][at % 2]);
            }
        }
        Granary g = two();
        Check.same("32 nothing there", g.couldTake(0, 0, 1), false);
        g.receive(0, 0, 40, 3);
        g.receive(0, 0, 59, 60);
        Check.same("32 of several lots", g.couldTake(0, 0, 99), true);
        g.cancel(g.order(0, 0, 9, 0, 0, 0));
        Check.same("32 cancelled ones are free", g.couldTake(0, 0, 99), true);
        g.pass(3);
        Check.same("32 on a last day", g.couldTake(0, 0, 99), true);
        g.pass(1);
        Check.same("32 behind it", g.couldTake(0, 0, 60), false);
        Check.same("32 behind it", g.couldTake(0, 0, 59), true);
    }
}
