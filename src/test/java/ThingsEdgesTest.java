/** Section 1 of the document at its edges: what the least and the greatest of each thing do, and what is too many. */
public final class ThingsEdgesTest {
    public static void main(String[] args) {
        dayIsZeroAtFirst();
        sixItems();
        fiveSites();
        lifeOfAnItem();
        priceOfAnItem();
        packOfAnItem();
        roomOfASite();
        routeEachWayByItself();
        daysOfARoute();
        routeThatGoes();
        lotUpToItsLastDay();
        twoHundredLots();
        lotWithoutUnits();
        reservedAndFree();
        sixtyOrders();
        statesOfAnOrder();
        dueOfAnOrder();
        ninetyTransports();
        underWayTillItHasArrived();
        policyForEachItemAndSite();
        lastOrderAndLastLot();
        Check.end();
    }

    private static Granary one(int life, int price, int pack, int room) {
        Granary g = new Granary();
        g.addItem(life, price, pack);
        g.addSite(room);
        return g;
    }

    /** "The DAY is 0 at first." */
    private static void dayIsZeroAtFirst() {
        Granary g = one(9, 9, 9, 99);
        Check.same("the DAY at first", g.day(), 0);
        g.receive(0, 0, 1, 0);
        Check.same("a last day counted from it", g.ofLot(0, 4), 0);
        Check.same("a due day counted from it", g.ofOrder(g.order(0, 0, 1, 0, 0, 0), 3), 0);
        g.ship(0);
        Check.same("shipped on it", g.ofOrder(0, 4), 0);
        Check.same("the day behind it", g.pass(1), 1);
    }

    /** "At most 6 ITEMS, numbered from 0" */
    private static void sixItems() {
        Granary g = new Granary();
        for (int item = 0; item < 6; item++) {
            int number = item;
            Check.noIndex("6 items, not yet", g, () -> g.classOf(number));
            Check.same("6 items", g.addItem(5, 5, 5), item);
            Check.same("6 items", g.items(), item + 1);
            Check.same("6 items", g.classOf(item), 2);
        }
        Check.noState("6 items, a seventh one", g, () -> g.addItem(5, 5, 5));
        Check.noIndex("6 items, a seventh one", g, () -> g.classOf(6));
        Check.same("6 items", g.items(), 6);
    }

    /** "At most 5 SITES, numbered from 0" */
    private static void fiveSites() {
        Granary g = new Granary();
        for (int site = 0; site < 5; site++) {
            int number = site;
            Check.noIndex("5 sites, not yet", g, () -> g.roomLeft(number));
            Check.same("5 sites", g.addSite(10 + site), site);
            Check.same("5 sites", g.sites(), site + 1);
            Check.same("5 sites", g.roomLeft(site), 10 + site);
        }
        Check.noState("5 sites, a sixth one", g, () -> g.addSite(5));
        Check.noIndex("5 sites, a sixth one", g, () -> g.roomLeft(5));
        Check.same("5 sites", g.sites(), 5);
    }

    /** "each has a life (1 to 99 days)" */
    private static void lifeOfAnItem() {
        for (int life : new int[] {1, 2, 98, 99}) {
            Granary g = one(life, 1, 1, 99);
            g.setPolicy(0, 0, 0, 7, -1, 1);
            g.pass(2);
            Check.same("life " + life, g.ofLot(0, 4), 2 + life);
            g.setPolicy(0, 0, 0, 0, -1, 1);
            for (int gone = 0; gone < life; gone++) {
                Check.same("life, units on the day " + g.day(), g.onHand(0, 0), 7);
                g.pass(1);
            }
            Check.same("life, on its last day", g.onHand(0, 0), 7);
            g.pass(1);
            Check.same("life, behind its last day", g.onHand(0, 0), 0);
        }
    }

    /** "a price (1 to 99)" */
    private static void priceOfAnItem() {
        for (int price : new int[] {1, 2, 98, 99}) {
            Granary g = one(9, price, 1, 999);
            g.receive(0, 0, 999, 1);
            Check.same("price " + price + ", spent", g.account(3), 999 * price);
            g.order(0, 0, 99, 0, 0, 0);
            g.ship(0);
            Check.same("price " + price + ", earned", g.account(4), 99 * 2 * price);
            g.pass(1);
            Check.same("price " + price + ", holding", g.account(0), 900 * price);
            g.pass(1);
            Check.same("price " + price + ", waste", g.account(1), 900 * price);
        }
    }

    /** "and a pack (1 to 20)" */
    private static void packOfAnItem() {
        int[][] packWantedDue = {{1, 1, 1}, {1, 7, 7}, {2, 1, 2}, {2, 2, 2}, {2, 3, 4}, {19, 19, 19}, {19, 20, 38},
            {20, 1, 20}, {20, 19, 20}, {20, 20, 20}, {20, 21, 40}, {20, 40, 40}, {20, 41, 60}, {20, 999, 1000}};
        for (int[] p : packWantedDue) {
            Granary g = one(9, 1, p[0], 9999);
            g.setPolicy(0, 0, 0, p[1], -1, 1);
            g.pass(1);
            Check.same("pack " + p[0] + ", wanted " + p[1], g.ofTransport(0, 2), p[2]);
        }
    }

    /** "each has room for 1 to 9999 units" */
    private static void roomOfASite() {
        Granary small = one(9, 1, 1, 1);
        Check.noState("room 1", small, () -> small.receive(0, 0, 2, 9));
        Check.same("room 1", small.receive(0, 0, 1, 9), 0);
        Check.same("room 1, full", small.roomLeft(0), 0);
        Check.noState("room 1, full", small, () -> small.receive(0, 0, 1, 9));
        Granary great = one(9, 1, 1, 9999);
        for (int lot = 0; lot < 10; lot++) {
            great.receive(0, 0, 999, 9);
        }
        Check.same("room 9999", great.roomLeft(0), 9);
        Check.noState("room 9999", great, () -> great.receive(0, 0, 10, 9));
        Check.same("room 9999", great.receive(0, 0, 9, 9), 10);
        Check.same("room 9999, full", great.roomLeft(0), 0);
        Check.noState("room 9999, full", great, () -> great.receive(0, 0, 1, 9));
        great.ship(great.order(0, 0, 1, 0, 0, 0));
        Check.same("room that is left by what is shipped", great.receive(0, 0, 1, 9), 11);
    }

    /** "Between two sites, each way by itself, there can be a ROUTE" */
    private static void routeEachWayByItself() {
        Granary g = new Granary();
        for (int site = 0; site < 5; site++) {
            g.addSite(9);
        }
        for (int at = 0; at < 25; at++) {
            if (at / 5 != at % 5) {
                Check.same("no route before", g.setRoute(at / 5, at % 5, 1 + at % 9), 0);
            }
        }
        for (int at = 0; at < 25; at++) {
            Check.same("each way by itself", g.route(at / 5, at % 5), at / 5 == at % 5 ? 0 : 1 + at % 9);
        }
        Check.same("one way goes", g.setRoute(3, 4, 0), 1 + 19 % 9);
        Check.same("one way goes", g.route(3, 4), 0);
        Check.same("the other one stays", g.route(4, 3), 1 + 23 % 9);
    }

    /** "a ROUTE of 1 to 9 days" */
    private static void daysOfARoute() {
        for (int days : new int[] {1, 2, 8, 9}) {
            Granary g = one(9, 1, 1, 99);
            g.addSite(99);
            g.setRoute(0, 1, days);
            g.receive(0, 0, 9, 50);
            g.send(0, 0, 1, 4);
            for (int gone = 0; gone < days; gone++) {
                Check.same("on its way of " + days, g.onHand(0, 1), 0);
                g.pass(1);
            }
            Check.same("arrived", g.onHand(0, 1), 4);
        }
    }

    /** "0 for none: then the POLICIES at the second site whose source is the first one are gone" */
    private static void routeThatGoes() {
        for (int item = 0; item < 6; item++) {
            Granary g = new Granary();
            for (int i = 0; i < 6; i++) {
                g.addItem(9, 1, 1);
            }
            for (int site = 0; site < 5; site++) {
                g.addSite(99);
            }
            g.setRoute(4, 3, 1);
            g.setRoute(2, 3, 1);
            g.setRoute(4, 2, 1);
            g.setRoute(3, 4, 1);
            g.setPolicy(item, 3, 1, 2, 4, 0);
            g.setPolicy((item + 1) % 6, 3, 1, 2, 2, 0);
            g.setPolicy((item + 2) % 6, 3, 1, 2, -1, 1);
            g.setPolicy(item, 2, 1, 2, 4, 0);
            g.setPolicy(item, 4, 1, 2, 3, 0);
            g.setRoute(4, 3, 9);
            Check.same("a route that is set anew", g.hasPolicy(item, 3), true);
            g.setRoute(4, 3, 0);
            Check.same("its policy is gone", g.hasPolicy(item, 3), false);
            Check.same("of another source", g.hasPolicy((item + 1) % 6, 3), true);
            Check.same("from outside", g.hasPolicy((item + 2) % 6, 3), true);
            Check.same("at another site", g.hasPolicy(item, 2), true);
            Check.same("the other way", g.hasPolicy(item, 4), true);
            g.setRoute(4, 3, 5);
            Check.same("it does not come again with the route", g.hasPolicy(item, 3), false);
        }
    }

    /** "with a last day: it can be used up to that day, this counted" */
    private static void lotUpToItsLastDay() {
        for (int days : new int[] {0, 1, 2, 98, 99}) {
            Granary g = one(9, 1, 1, 99);
            g.receive(0, 0, 5, days);
            for (int gone = 0; gone < days; gone++) {
                g.pass(1);
            }
            Check.same("on its last day", g.onHand(0, 0), 5);
            Check.same("on its last day", g.couldTake(0, 0, 5), true);
            g.order(0, 0, 2, 0, 0, 0);
            Check.same("reserved on its last day", g.ofOrder(0, 2), 2);
            Check.same("shipped on its last day", g.ship(0), 2);
            g.pass(1);
            Check.same("behind its last day", g.onHand(0, 0), 0);
            Check.same("behind its last day", g.couldTake(0, 0, 1), false);
            Check.same("behind its last day", g.account(1), 3);
        }
    }

    /** "At most 200 LOTS come to be, numbered from 0" */
    private static void twoHundredLots() {
        Granary g = one(9, 1, 1, 9999);
        for (int lot = 0; lot < 199; lot++) {
            g.receive(0, 0, 1 + lot % 3, lot % 100);
        }
        Check.same("199 lots", g.lots(), 199);
        Check.noIndex("199 lots, the last one is 198", g, () -> g.ofLot(199, 0));
        Check.same("the 200th lot", g.receive(0, 0, 5, 77), 199);
        Check.same("the 200th lot", g.ofLot(199, 2), 5);
        Check.same("the 200th lot", g.ofLot(199, 4), 77);
        Check.noState("a 201st lot", g, () -> g.receive(0, 0, 1, 1));
        Check.noIndex("a 201st lot", g, () -> g.ofLot(200, 0));
        for (int lot = 0; lot < 199; lot++) {
            Check.same("each keeps its number", g.ofLot(lot, 4), lot % 100);
        }
    }

    /** "a LOT without units stays, with its number, its last day, and 0 units" */
    private static void lotWithoutUnits() {
        Granary g = one(9, 1, 1, 99);
        g.addItem(9, 1, 1);
        g.addSite(99);
        g.setRoute(1, 0, 2);
        g.receive(1, 1, 4, 8);
        g.receive(1, 1, 5, 7);
        g.receive(1, 1, 6, 1);
        g.receive(1, 1, 3, 9);
        g.send(1, 1, 0, 5);
        g.ship(g.order(1, 1, 4, 8, 0, 0));
        g.pass(2);
        int[] last = {8, 7, 1};
        for (int lot = 0; lot < 3; lot++) {
            Check.same("shipped, sent or wasted: its item", g.ofLot(lot, 0), 1);
            Check.same("shipped, sent or wasted: its site", g.ofLot(lot, 1), 1);
            Check.same("shipped, sent or wasted: its units", g.ofLot(lot, 2), 0);
            Check.same("shipped, sent or wasted: reserved", g.ofLot(lot, 3), 0);
            Check.same("shipped, sent or wasted: its last day", g.ofLot(lot, 4), last[lot]);
        }
        Check.same("the next one keeps its number", g.ofLot(3, 2), 3);
        Check.same("all of them count", g.lots(), 5);
        Check.same("a new one gets a new number", g.receive(1, 1, 1, 1), 5);
    }

    /** "Of its units some are RESERVED by orders, the others are FREE." */
    private static void reservedAndFree() {
        Granary g = one(9, 1, 1, 99);
        g.receive(0, 0, 10, 9);
        Check.same("none is reserved", g.ofLot(0, 3), 0);
        Check.same("all are free", g.free(0, 0), 10);
        g.order(0, 0, 9, 5, 0, 0);
        Check.same("nine are reserved", g.ofLot(0, 3), 9);
        Check.same("one is free", g.free(0, 0), 1);
        g.order(0, 0, 1, 5, 0, 0);
        Check.same("all are reserved, by two orders", g.ofLot(0, 3), 10);
        Check.same("none is free", g.free(0, 0), 0);
        Check.same("reserved ones are there still", g.onHand(0, 0), 10);
    }

    /** "At most 60 ORDERS, numbered from 0" */
    private static void sixtyOrders() {
        Granary g = one(9, 1, 1, 99);
        g.receive(0, 0, 5, 9);
        for (int order = 0; order < 59; order++) {
            g.order(0, 0, 1 + order, order, 0, 0);
        }
        g.ship(0);
        g.cancel(1);
        Check.same("59 orders", g.orders(), 59);
        Check.noIndex("59 orders, the last one is 58", g, () -> g.ofOrder(59, 0));
        Check.same("the 60th order", g.order(0, 0, 77, 8, 0, 0), 59);
        Check.same("the 60th order", g.ofOrder(59, 1), 77);
        Check.noState("a 61st order", g, () -> g.order(0, 0, 1, 0, 0, 0));
        Check.noIndex("a 61st order", g, () -> g.ofOrder(60, 0));
        for (int order = 0; order < 59; order++) {
            Check.same("each keeps its number", g.ofOrder(order, 3), order);
        }
    }

    /** "It is OPEN (0), SHIPPED (1) or CANCELLED (2)." */
    private static void statesOfAnOrder() {
        Granary g = one(9, 1, 1, 99);
        g.receive(0, 0, 2, 9);
        for (int order = 0; order < 3; order++) {
            g.order(0, 0, 1, 1, 0, 0);
            Check.same("open", g.ofOrder(order, 0), 0);
        }
        g.ship(0);
        Check.same("shipped", g.ofOrder(0, 0), 1);
        g.cancel(1);
        Check.same("cancelled", g.ofOrder(1, 0), 2);
        g.pass(1);
        Check.same("shipped by its day", g.ofOrder(2, 0), 1);
        Check.same("cancelled still", g.ofOrder(1, 0), 2);
    }

    /** "in how many days from the DAY it is due", 0 to 60 */
    private static void dueOfAnOrder() {
        for (int due : new int[] {0, 1, 59, 60}) {
            Granary g = one(9, 1, 1, 99);
            g.pass(3);
            g.order(0, 0, 1, due, 0, 0);
            Check.same("due in " + due, g.ofOrder(0, 3), 3 + due);
            for (int gone = 0; gone < due - 1; gone++) {
                g.pass(1);
            }
            Check.same("due in " + due + ", not yet", g.account(2), 0);
            g.pass(1);
            Check.same("due in " + due + ", on the first day that goes by from it on", g.account(2), 1);
        }
    }

    /** "At most 90 TRANSPORTS, numbered from 0" */
    private static void ninetyTransports() {
        Granary g = one(9, 1, 1, 999);
        g.addSite(999);
        g.setRoute(0, 1, 2);
        g.receive(0, 0, 200, 50);
        for (int transport = 0; transport < 89; transport++) {
            g.send(0, 0, 1, 1 + transport % 2);
        }
        Check.same("89 transports", g.transports(), 89);
        Check.noIndex("89 transports, the last one is 88", g, () -> g.ofTransport(89, 0));
        Check.same("the 90th", g.send(0, 0, 1, 7), 7);
        Check.same("the 90th", g.ofTransport(89, 2), 7);
        Check.same("a 91st", g.send(0, 0, 1, 7), 0);
        Check.same("a 91st", g.transports(), 90);
        Check.noIndex("a 91st", g, () -> g.ofTransport(90, 0));
        for (int transport = 0; transport < 89; transport++) {
            Check.same("each keeps its number", g.ofTransport(transport, 2), 1 + transport % 2);
        }
    }

    /** "each brings some units of an item to a site, on a day, with a last day; it is under way till it has arrived" */
    private static void underWayTillItHasArrived() {
        for (int item = 0; item < 2; item++) {
            Granary g = one(9, 1, 1, 99);
            g.addItem(9, 1, 1);
            g.addSite(99);
            g.addSite(99);
            g.setRoute(0, 2 - item, 3);
            g.pass(2);
            g.receive(item, 0, 9, 20);
            g.send(item, 0, 2 - item, 6);
            int[] due = {item, 2 - item, 6, 5, 22, 1};
            for (int gone = 0; gone < 3; gone++) {
                for (int what = 0; what <= 5; what++) {
                    Check.same("under way, " + what, g.ofTransport(0, what), due[what]);
                }
                Check.same("under way", g.underWay(item, 2 - item), 6);
                Check.same("under way of another item", g.underWay(1 - item, 2 - item), 0);
                Check.same("under way to another site", g.underWay(item, 1 + item), 0);
                g.pass(1);
            }
            due[5] = 0;
            for (int what = 0; what <= 5; what++) {
                Check.same("arrived, " + what, g.ofTransport(0, what), due[what]);
            }
            Check.same("arrived", g.underWay(item, 2 - item), 0);
            g.pass(3);
            Check.same("it arrives once", g.onHand(item, 2 - item), 6);
            Check.same("its item", g.ofLot(1, 0), item);
            Check.same("its site", g.ofLot(1, 1), 2 - item);
        }
    }

    /** "For each item and site there can be a POLICY" */
    private static void policyForEachItemAndSite() {
        Granary g = new Granary();
        for (int item = 0; item < 6; item++) {
            g.addItem(9, 1, 1);
        }
        for (int site = 0; site < 5; site++) {
            g.addSite(99);
        }
        for (int at = 0; at < 30; at++) {
            Check.same("none yet", g.hasPolicy(at / 5, at % 5), false);
            Check.same("none was there", g.setPolicy(at / 5, at % 5, at, 10 * at, -1, 1), false);
            Check.same("one is there", g.hasPolicy(at / 5, at % 5), true);
        }
        for (int at = 0; at < 30; at++) {
            Check.same("each has its own point", g.lacks(at / 5, at % 5), at);
        }
        for (int at = 0; at < 30; at++) {
            g.receive(at / 5, at % 5, 1 + at % 9, 9);
            Check.same("each has its own top", g.spares(at / 5, at % 5), Math.max(0, 1 + at % 9 - 10 * at));
            g.ship(g.order(at / 5, at % 5, 1 + at % 9, 9, 0, 0));
        }
        g.pass(1);
        for (int transport = 0; transport < 29; transport++) {
            Check.same("each has its own top", g.ofTransport(transport, 2), 10 * (transport + 1));
        }
        Check.same("the one of the top 0 wants nothing", g.transports(), 29);
    }

    /** With 200 lots and 60 orders each call works on the last ones of them as on the others. */
    private static void lastOrderAndLastLot() {
        Granary g = full();
        Check.same("the last lot, of the last order", g.reserved(59, 199), 1);
        Check.same("the last lot, of the order ahead", g.reserved(58, 199), 0);
        Check.same("the first order", g.reserved(0, 80), 1);
        long sum = g.digest();
        Check.same("reserved anew, the same", g.reserveAnew(), 60 * 2);
        Check.same("reserved anew, the same", g.digest(), sum);
        Check.same("the last order is cancelled", g.cancel(59), 2);
        Check.same("its lot is free", g.ofLot(199, 3), 0);
        Check.same("one ahead is shipped", g.ship(58), 2);
        Check.same("its lots are empty", g.ofLot(197, 2), 0);
        Check.same("punctual", g.punctuality(), 1.0);
        Check.same("rate", g.rate(0, 0, 60), 0);
        Check.same("would be", g.shippedOn(57, 30), 9);
        Check.same("would be", g.firstShort(30), -1);
        Check.same("would be", g.onHandIn(0, 0, 8), 200 - 2);
        Check.same("would be", g.onHandIn(0, 0, 9), 200 - 59 * 2);
        Check.same("would be", g.onHandIn(0, 0, 22), 0);
        g.pass(9);
        Check.same("all others are shipped", g.ofOrder(0, 4) + g.ofOrder(57, 4), 18);
        g.pass(13);
        Check.same("the others are wasted", g.account(1), 200 - 59 * 2);
        Check.same("nothing is left", g.roomLeft(0), 9999);
    }

    /** 200 lots of one unit, 60 orders for two units each: the order n has the lots 80 + 2n and 81 + 2n. */
    private static Granary full() {
        Granary g = one(9, 1, 1, 9999);
        for (int lot = 0; lot < 200; lot++) {
            g.receive(0, 0, 1, lot < 80 ? 21 : 20);
        }
        for (int order = 0; order < 60; order++) {
            g.order(0, 0, 2, 9, 0, 0);
        }
        return g;
    }
}
