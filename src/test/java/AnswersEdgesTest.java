import java.math.BigInteger;

/** What each promise "Returns", where the document names a special case of it; and the promises 41 to 44. */
public final class AnswersEdgesTest {
    public static void main(String[] args) {
        setRouteReturnsTheDaysBefore();
        setPolicyReturnsWhetherThereWasOne();
        receiveReservesNothing();
        receiveUpToTheRoom();
        orderReservesAtOnce();
        cancelReturnsWhatWasReserved();
        reserveAnewReturnsAll();
        shipReturnsItsUnits();
        shipAheadOfItsDueDay();
        shipJustAsMany();
        passReturnsTheDay();
        sendReturnsWhatWasSent();
        ofOrderShippedOnAnyDay();
        onHandInIsThatBehindPass();
        firstShortIsADay();
        firstShortWithinSoMany();
        firstShortOfWhatIsToCome();
        shippedOnIsADay();
        shippedOnWithinSoMany();
        shippedOnOfOtherStates();
        nothingIsChangedByWhatWouldBe();
        whatWouldBeByRankAndKeep();
        whatWouldBeUnderWay();
        whatWouldBeIsWhatComes();
        whatWouldBeOfALaterState();
        fiveHundredAndTwelveCalls();
        digestWrapsAround();
        digestOfEachNumber();
        digestOfSevenDays();
        digestOfOneReservedUnit();
        Check.end();
    }

    private static Granary two() {
        Granary g = new Granary();
        g.addItem(9, 3, 1);
        g.addItem(9, 7, 1);
        g.addSite(500);
        g.addSite(20);
        g.setRoute(0, 1, 2);
        return g;
    }

    /** "Returns its days before; 0 if there was none." */
    private static void setRouteReturnsTheDaysBefore() {
        Granary g = two();
        int[] days = {1, 9, 9, 0, 0, 4, 0};
        int before = 2;
        for (int d : days) {
            Check.same("4 before " + d, g.setRoute(0, 1, d), before);
            Check.same("24 set to " + d, g.route(0, 1), d);
            before = d;
        }
        Check.same("4 the other way", g.setRoute(1, 0, 5), 0);
    }

    /** "Returns whether there was one." */
    private static void setPolicyReturnsWhetherThereWasOne() {
        Granary g = two();
        Check.same("5 none", g.setPolicy(0, 1, 0, 0, 0, 0), false);
        Check.same("5 of another item", g.setPolicy(1, 1, 0, 0, -1, 1), false);
        Check.same("5 of another site", g.setPolicy(0, 0, 0, 0, -1, 1), false);
        Check.same("5 one", g.setPolicy(0, 1, 0, 0, 0, 0), true);
        g.setRoute(0, 1, 0);
        Check.same("5 gone with its route", g.setPolicy(0, 1, 0, 0, -1, 1), false);
        Check.same("5 the other one stays", g.setPolicy(1, 1, 0, 0, -1, 1), true);
    }

    /** "(Nothing is reserved by that.)" */
    private static void receiveReservesNothing() {
        Granary g = two();
        g.order(0, 0, 5, 1, 0, 0);
        g.receive(0, 0, 9, 9);
        Check.same("6 reserved", g.ofOrder(0, 2), 0);
        Check.same("6 reserved of the lot", g.ofLot(0, 3), 0);
        Check.same("6 free", g.free(0, 0), 9);
        g.order(0, 0, 5, 1, 0, 0);
        Check.same("7 the new order alone is reserved for", g.ofOrder(0, 2), 0);
        Check.same("7 the new order alone is reserved for", g.ofOrder(1, 2), 5);
    }

    /** "Throws IllegalStateException if ... the site has no room for them" */
    private static void receiveUpToTheRoom() {
        for (int there = 0; there <= 20; there++) {
            int left = 20 - there;
            Check.Maker maker = () -> {
                Granary g = two();
                if (left < 20) {
                    g.receive(1, 1, 20 - left, 9);
                }
                return g;
            };
            Check.leavesAsItWas("6 one more than there is room for", IllegalStateException.class, maker,
                    g -> g.receive(0, 1, left + 1, 9));
            Granary g = maker.make();
            if (left > 0) {
                Check.same("6 just as many", g.receive(0, 1, left, 9), there > 0 ? 1 : 0);
            }
            Check.same("30 no room is left", g.roomLeft(1), 0);
            Check.same("30 another site has it all", g.roomLeft(0), 500);
        }
    }

    /** "Takes an order, and reserves for it." */
    private static void orderReservesAtOnce() {
        Granary g = two();
        g.receive(0, 0, 9, 9);
        Check.same("7 its number", g.order(0, 0, 5, 3, 0, 0), 0);
        Check.same("7 all", g.ofOrder(0, 2), 5);
        Check.same("7 its number", g.order(0, 0, 5, 0, 0, 0), 1);
        Check.same("7 those that are left", g.ofOrder(1, 2), 4);
        Check.same("7 its number", g.order(0, 0, 5, 0, 0, 0), 2);
        Check.same("7 none", g.ofOrder(2, 2), 0);
    }

    /** "Returns how many units that were." (RESERVED, not those it was for) */
    private static void cancelReturnsWhatWasReserved() {
        for (int there = 0; there <= 6; there++) {
            Granary g = two();
            if (there > 0) {
                g.receive(0, 0, there, 9);
            }
            g.order(0, 0, 5, 1, 0, 0);
            Check.same("8 of " + there, g.cancel(0), Math.min(there, 5));
            Check.same("8 free", g.free(0, 0), there);
            Check.same("8 reserved for it", g.ofOrder(0, 2), 0);
            Check.same("8 it is for as many still", g.ofOrder(0, 1), 5);
            Check.same("21 not shipped", g.ofOrder(0, 4), -1);
            Check.same("29 position", g.position(0, 0), there);
        }
    }

    /** "Returns how many units are RESERVED then." */
    private static void reserveAnewReturnsAll() {
        Granary g = two();
        Check.same("9 without orders", g.reserveAnew(), 0);
        g.order(0, 0, 5, 1, 0, 0);
        Check.same("9 without lots", g.reserveAnew(), 0);
        g.order(1, 1, 6, 1, 0, 0);
        g.receive(0, 0, 4, 9);
        Check.same("9 of one item", g.reserveAnew(), 4);
        g.receive(1, 1, 9, 9);
        Check.same("9 of all items and sites", g.reserveAnew(), 10);
        Check.same("9 the same again", g.reserveAnew(), 10);
        g.receive(0, 0, 4, 9);
        Check.same("9 no more than they are for", g.reserveAnew(), 11);
    }

    /** "Returns how many units it is for." */
    private static void shipReturnsItsUnits() {
        for (int units : new int[] {1, 2, 99}) {
            Granary g = two();
            g.receive(0, 0, 99, 9);
            g.order(0, 0, units, 1, 0, 0);
            Check.same("10 ship", g.ship(0), units);
            Check.same("26 on hand", g.onHand(0, 0), 99 - units);
            Check.same("33 earned", g.account(4), units * 6);
        }
    }

    /** "Ships an order at once, also ahead of its due day." */
    private static void shipAheadOfItsDueDay() {
        Granary g = two();
        g.receive(0, 0, 9, 99);
        g.order(0, 0, 3, 60, 0, 0);
        g.pass(1);
        Check.same("10 ship", g.ship(0), 3);
        Check.same("21 shipped on", g.ofOrder(0, 4), 1);
        Check.same("21 its due day stays", g.ofOrder(0, 3), 60);
        Check.same("37 punctual", g.punctuality(), 1.0);
    }

    /** "or has not as many RESERVED as it is for" */
    private static void shipJustAsMany() {
        for (int there = 4; there <= 6; there++) {
            int units = there;
            Check.Maker maker = () -> {
                Granary g = two();
                g.receive(0, 0, units, 9);
                g.order(0, 0, 5, 1, 0, 0);
                return g;
            };
            if (there == 4) {
                Check.leavesAsItWas("10 one is lacking", IllegalStateException.class, maker, g -> g.ship(0));
            } else {
                Check.same("10 just as many", maker.make().ship(0), 5);
            }
        }
    }

    /** "Returns the DAY then." */
    private static void passReturnsTheDay() {
        Granary g = new Granary();
        Check.same("11 a day", g.pass(1), 1);
        Check.same("11 thirty", g.pass(30), 31);
        Check.same("11 two", g.pass(2), 33);
        Check.same("14 day", g.day(), 33);
    }

    /** "Returns how many were sent." */
    private static void sendReturnsWhatWasSent() {
        Granary g = two();
        Check.same("12 nothing there", g.send(0, 0, 1, 1), 0);
        Check.same("19 no transport", g.transports(), 0);
        g.receive(0, 0, 7, 9);
        Check.same("12 one", g.send(0, 0, 1, 1), 1);
        Check.same("12 as many as can be", g.send(0, 0, 1, 7), 6);
        Check.same("12 nothing more", g.send(0, 0, 1, 1), 0);
        Check.same("19 two transports", g.transports(), 2);
    }

    /** "4 on which day it was SHIPPED (-1 if it was not)" */
    private static void ofOrderShippedOnAnyDay() {
        Granary g = two();
        g.receive(0, 0, 9, 9);
        for (int order = 0; order < 4; order++) {
            g.order(0, 0, 1, 2, 0, 0);
            Check.same("21 open", g.ofOrder(order, 4), -1);
        }
        g.ship(1);
        Check.same("21 shipped on the day 0", g.ofOrder(1, 4), 0);
        g.cancel(2);
        g.pass(1);
        g.ship(3);
        g.pass(2);
        int[] due = {2, 0, -1, 1};
        for (int order = 0; order < 4; order++) {
            Check.same("21 order " + order, g.ofOrder(order, 4), due[order]);
        }
    }

    /** "Returns what onHand() would tell behind pass(days)." */
    private static void onHandInIsThatBehindPass() {
        Granary g = two();
        g.pass(4);
        g.receive(0, 0, 9, 2);
        g.receive(0, 0, 5, 6);
        g.order(0, 0, 3, 4, 0, 0);
        g.send(0, 0, 1, 2);
        g.setPolicy(1, 0, 0, 6, -1, 3);
        Check.same("26 the lot with the earlier last day is too early to be sent", g.ofTransport(0, 4), 10);
        int[] here = {12, 12, 3, 0, 0, 0, 0};
        int[] there = {0, 2, 2, 2, 2, 2, 0};
        int[] ordered = {0, 0, 0, 6, 6, 6, 6};
        for (int days = 1; days <= 7; days++) {
            Check.same("41 item 0, site 0, in " + days, g.onHandIn(0, 0, days), here[days - 1]);
            Check.same("41 item 0, site 1, in " + days, g.onHandIn(0, 1, days), there[days - 1]);
            Check.same("41 item 1, site 0, in " + days, g.onHandIn(1, 0, days), ordered[days - 1]);
            Check.same("41 item 1, site 1, in " + days, g.onHandIn(1, 1, days), 0);
        }
        Check.same("14 it is that day still", g.day(), 4);
    }

    /** "Returns the first day, as days go by, on which anything would be SHORT" */
    private static void firstShortIsADay() {
        for (int today : new int[] {0, 1, 7}) {
            Granary g = two();
            if (today > 0) {
                g.pass(today);
            }
            g.order(1, 1, 1, 5, 9, 0);
            g.order(0, 0, 1, 3, 0, 0);
            Check.same("42 on the day " + today, g.firstShort(30), today + 3);
            g.cancel(1);
            Check.same("42 of any item and site", g.firstShort(30), today + 5);
            g.cancel(0);
            Check.same("42 nothing", g.firstShort(30), -1);
        }
    }

    /** "-1 if nothing would be within so many" */
    private static void firstShortWithinSoMany() {
        for (int due : new int[] {1, 2, 29, 30, 31}) {
            Granary g = two();
            g.pass(2);
            g.order(0, 0, 1, due, 0, 0);
            for (int days : new int[] {1, 2, 28, 29, 30}) {
                Check.same("42 due in " + due + ", within " + days, g.firstShort(days), due <= days ? 2 + due : -1);
            }
        }
        Granary now = two();
        now.order(0, 0, 1, 0, 0, 0);
        Check.same("42 due today: the first day that goes by", now.firstShort(1), 1);
        now.pass(3);
        Check.same("42 short for long", now.firstShort(1), 4);
        Check.same("42 short for long", now.firstShort(30), 4);
        now.cancel(0);
        Check.same("42 what was short is past", now.firstShort(30), -1);
        now.receive(0, 0, 5, 2);
        now.order(0, 0, 6, 12, 0, 0);
        Check.same("42 wasted is not short", now.firstShort(11), -1);
        Check.same("42 short again", now.firstShort(12), 15);
        Check.same("42 a new object", new Granary().firstShort(30), -1);
    }

    /** What would come, expire, be ordered or go to others ahead counts. */
    private static void firstShortOfWhatIsToCome() {
        Granary comes = two();
        comes.setPolicy(0, 0, 0, 5, -1, 3);
        comes.order(0, 0, 5, 4, 0, 0);
        Check.same("42 it comes in time", comes.firstShort(30), -1);
        comes.setPolicy(0, 0, 0, 5, -1, 4);
        Check.same("42 it comes a day late", comes.firstShort(30), 4);
        Granary expires = two();
        expires.receive(0, 0, 5, 6);
        expires.order(0, 0, 5, 6, 1, 0);
        Check.same("42 it lasts till then", expires.firstShort(30), -1);
        expires.order(0, 0, 3, 3, 0, 0);
        Check.same("42 what is reserved stays with its order", expires.firstShort(30), 3);
        Granary freed = two();
        freed.receive(0, 0, 5, 6);
        freed.order(0, 0, 9, 8, 0, 0);
        freed.order(0, 0, 5, 6, 1, 0);
        freed.cancel(0);
        Check.same("42 what is freed goes to the other one", freed.firstShort(30), -1);
    }

    /** "Returns the day on which it would be SHIPPED, or was" */
    private static void shippedOnIsADay() {
        for (int today : new int[] {0, 1, 7}) {
            Granary g = two();
            if (today > 0) {
                g.pass(today);
            }
            g.receive(0, 0, 9, 50);
            g.order(0, 0, 1, 3, 0, 0);
            g.order(0, 0, 1, 5, 0, 0);
            g.order(0, 0, 1, 0, 0, 0);
            Check.same("43 on the day " + today, g.shippedOn(0, 30), today + 3);
            Check.same("43 on the day " + today, g.shippedOn(1, 30), today + 5);
            Check.same("43 due today: the first day that goes by", g.shippedOn(2, 1), today + 1);
            g.ship(1);
            Check.same("43 it was", g.shippedOn(1, 1), today);
            g.pass(4);
            Check.same("43 it was", g.shippedOn(0, 1), today + 3);
            Check.same("43 it was", g.shippedOn(1, 30), today);
            Check.same("43 it was", g.shippedOn(2, 30), today + 1);
        }
    }

    /** "-1 if it would not be within so many" */
    private static void shippedOnWithinSoMany() {
        for (int due : new int[] {1, 2, 29, 30, 31}) {
            Granary g = two();
            g.pass(2);
            g.receive(0, 0, 9, 50);
            g.order(0, 0, 1, due, 0, 0);
            for (int days : new int[] {1, 2, 28, 29, 30}) {
                Check.same("43 due in " + due + ", within " + days, g.shippedOn(0, days), due <= days ? 2 + due : -1);
            }
        }
        Granary late = two();
        late.setPolicy(0, 0, 0, 5, -1, 7);
        late.order(0, 0, 5, 2, 0, 0);
        Check.same("43 late, when it comes", late.shippedOn(0, 30), 8);
        Check.same("43 late, when it comes", late.shippedOn(0, 8), 8);
        Check.same("43 late, a day too few", late.shippedOn(0, 7), -1);
    }

    private static void shippedOnOfOtherStates() {
        Granary g = two();
        g.receive(0, 0, 9, 50);
        g.order(0, 0, 1, 1, 0, 0);
        g.order(0, 0, 99, 1, 0, 0);
        g.order(0, 0, 1, 0, 0, 0);
        g.cancel(0);
        g.ship(g.order(0, 0, 1, 9, 0, 0));
        Check.same("43 cancelled", g.shippedOn(0, 30), -1);
        Check.same("43 never as many", g.shippedOn(1, 30), -1);
        Check.same("43 of what was reserved for another one nothing", g.shippedOn(2, 30), -1);
        Check.same("43 shipped on the day 0", g.shippedOn(3, 30), 0);
    }

    /** "what would be (nothing is changed)" */
    private static void nothingIsChangedByWhatWouldBe() {
        Granary asked = two();
        Granary twin = two();
        for (int turn = 0; turn < 6; turn++) {
            for (Granary g : new Granary[] {asked, twin}) {
                g.receive(0, 0, 40 + turn, 8);
                g.order(0, turn % 2, 6 + turn, 3, turn, turn);
                g.setPolicy(0, 1, 4, 9 + turn, turn % 2 - 1, 3);
                g.setPolicy(1, 0, turn, 9, -1, 2);
            }
            asked.onHandIn(0, 1, 30);
            asked.firstShort(30);
            asked.shippedOn(turn, 30);
            asked.firstShort(1);
            asked.planned(0, 0, 1);
            asked.digest();
            Check.same("41 to 44 change nothing", asked.digest(), twin.digest());
            Check.same("41 again the same", asked.onHandIn(0, 1, 9), twin.onHandIn(0, 1, 9));
            asked.pass(1 + turn);
            twin.pass(1 + turn);
            Check.same("41 to 44 change nothing, as days go by", asked.digest(), twin.digest());
        }
    }

    private static void whatWouldBeByRankAndKeep() {
        for (int rank = 3; rank <= 5; rank++) {
            Granary g = two();
            g.order(0, 0, 5, 3, 4, 0);
            g.order(0, 0, 5, 3, rank, 0);
            g.receive(0, 0, 5, 9);
            Check.same("43 the other one has the rank " + rank, g.shippedOn(0, 30), rank < 4 ? -1 : 3);
            Check.same("43 it has the rank " + rank, g.shippedOn(1, 30), rank < 4 ? 3 : -1);
        }
        for (int keep = 3; keep <= 5; keep++) {
            Granary g = two();
            g.order(0, 0, 5, 3, 0, keep);
            g.receive(0, 0, 5, 7);
            Check.same("43 the lot lasts for a keep of 4, not of more: " + keep, g.shippedOn(0, 30), keep < 5 ? 3 : -1);
            Check.same("42 the lot lasts for a keep of 4, not of more: " + keep, g.firstShort(30), keep < 5 ? -1 : 3);
        }
    }

    private static void whatWouldBeUnderWay() {
        Granary g = two();
        g.receive(0, 0, 30, 9);
        g.receive(1, 0, 30, 9);
        g.setRoute(1, 0, 3);
        g.send(1, 0, 1, 8);
        g.send(0, 0, 1, 5);
        g.pass(2);
        g.send(0, 1, 0, 2);
        Check.same("41 not yet", g.onHandIn(0, 0, 2), 25);
        Check.same("41 then", g.onHandIn(0, 0, 3), 27);
        g = two();
        g.receive(1, 0, 30, 9);
        g.send(1, 0, 1, 8);
        Check.same("41 of the item 1, not yet", g.onHandIn(1, 1, 1), 0);
        Check.same("41 of the item 1, then", g.onHandIn(1, 1, 2), 8);
        Check.same("41 of the item 0 nothing", g.onHandIn(0, 1, 2), 0);
        g.pass(2);
        Check.same("41 what has arrived does not come again", g.onHandIn(1, 1, 1), 8);
    }

    /** Sites, items, packs, ranks, keeps, points, routes: each of them decides something of what would be. */
    private static Granary busy(int variant) {
        Granary g = new Granary();
        g.addItem(9, 3, 6);
        g.addItem(5, 7, 4);
        g.addSite(60);
        g.addSite(20 + variant);
        g.addSite(300);
        g.setRoute(0, 1, 2);
        g.setRoute(2, 0, 1 + variant);
        g.setRoute(2, 1, 3);
        g.pass(1 + variant);
        g.receive(0, 0, 20, 7);
        g.receive(1, 2, 90, 30);
        g.receive(0, 2, 80, 25);
        g.receive(1, 1, 5, 12);
        g.receive(1, 0, 4, 15);
        g.setPolicy(0, 0, 15, 17, 2, 0);
        g.setPolicy(0, 1, 3, 8 + variant, 0, 0);
        g.setPolicy(1, 0, 3, 10, -1, 4);
        g.setPolicy(1, 1, 6, 7, 2, 0);
        g.setPolicy(0, 2, 30 * variant, 40 * variant, -1, 5);
        g.order(0, 0, 9, 8, 5, 2);
        g.order(0, 0, 14, 3, 7, 0);
        g.order(0, 1, 5, 9, 0, 4);
        g.order(1, 0, 6, 7, 3, 1 + variant);
        g.order(1, 1, 7, 11, 2, 0);
        g.order(0, 0, 8, 12, 0, 0);
        g.order(0, 0, 99, 13, 8, 0);
        g.cancel(5);
        g.send(0, 2, 1, 3);
        return g;
    }

    /** "Returns what onHand() would tell behind pass(days).", and the same for the days of the others */
    private static void whatWouldBeIsWhatComes() {
        for (int variant = 0; variant < 4; variant++) {
            Granary asked = busy(variant);
            Granary comes = busy(variant);
            int firstShort = -1;
            for (int days = 1; days <= 30; days++) {
                int shortage = comes.account(2);
                comes.pass(1);
                if (firstShort == -1 && comes.account(2) != shortage) {
                    firstShort = comes.day();
                }
                Check.same("42 busy " + variant + ", " + days, asked.firstShort(days), firstShort);
                wouldBeLike("busy " + variant, asked, days, comes);
                if (days == 15) {
                    asked = busy(variant);
                }
            }
            Check.same("42 busy " + variant + ", something is short", firstShort > 0, true);
        }
    }

    private static void wouldBeLike(String name, Granary asked, int days, Granary comes) {
        for (int at = 0; at < 6; at++) {
            Check.same("41 " + name + ", item " + at / 3 + ", site " + at % 3 + ", in " + days,
                    asked.onHandIn(at / 3, at % 3, days), comes.onHand(at / 3, at % 3));
        }
        for (int order = 0; order < comes.orders(); order++) {
            Check.same("43 " + name + ", order " + order + ", in " + days, asked.shippedOn(order, days),
                    comes.ofOrder(order, 4));
        }
    }

    /** What was asked before, when less or more was there, does not count any more. */
    private static void whatWouldBeOfALaterState() {
        Granary asked = new Granary();
        Granary comes = new Granary();
        for (Granary g : new Granary[] {asked, comes}) {
            g.addItem(9, 3, 6);
            g.addItem(8, 3, 5);
            g.addSite(900);
            g.addSite(900);
            g.addSite(900);
            g.setRoute(0, 1, 2);
            g.setPolicy(0, 1, 9, 12, 0, 0);
            g.setPolicy(1, 2, 4, 6, -1, 3);
            g.receive(0, 0, 60, 40);
            g.order(0, 1, 3, 9, 0, 0);
        }
        Check.same("41 before, 18 by packs less 3", asked.onHandIn(0, 1, 30), 15);
        Check.same("41 before", asked.onHandIn(1, 2, 3), 0);
        Check.same("43 before", asked.shippedOn(0, 30), 9);
        for (Granary g : new Granary[] {asked, comes}) {
            g.setRoute(0, 1, 0);
            g.setPolicy(1, 2, 4, 9, -1, 2);
            g.setPolicy(0, 2, 7, 8, -1, 2);
            g.cancel(0);
            g.order(0, 0, 8, 2, 4, 3);
            g.order(1, 2, 8, 5, 2, 0);
            g.setRoute(2, 1, 1);
            g.setPolicy(1, 1, 1, 3, 2, 0);
        }
        for (int days = 1; days <= 9; days++) {
            comes.pass(1);
            wouldBeLike("a later state", asked, days, comes);
        }
    }

    /** "An object is used for at most 512 calls after it has been made" */
    private static void fiveHundredAndTwelveCalls() {
        Granary g = two();
        g.setPolicy(0, 0, 0, 1, -1, 1);
        for (int call = 7; call <= 511; call++) {
            Check.same("the DAY with each call", g.pass(30), 30 * (call - 6));
        }
        Check.same("the 512th call", g.day(), 30 * 505);
    }

    /** "A number d starts with 58035", "which wraps around as a 64-bit integer" */
    private static void digestWrapsAround() {
        BigInteger d = BigInteger.valueOf(58035);
        for (int number = 0; number < 11; number++) {
            d = d.multiply(BigInteger.valueOf(31));
        }
        Check.same("44 beyond 64 bits", d.bitLength() > 64, true);
        Check.same("44 a new object", new Granary().digest(), d.longValue());
        Granary g = new Granary();
        g.pass(5);
        BigInteger five = BigInteger.valueOf(5).multiply(BigInteger.valueOf(31).pow(10));
        Check.same("44 the DAY is the first of eleven numbers", g.digest(), d.add(five).longValue());
    }

    private static BigInteger told;

    private static void tell(long... numbers) {
        for (long number : numbers) {
            told = told.multiply(BigInteger.valueOf(31)).add(BigInteger.valueOf(number));
        }
    }

    /** The digest of what the other calls tell, in the document's order, and cut to 64 bits at the end alone. */
    private static long digestByHand(Granary g) {
        told = BigInteger.valueOf(58035);
        tell(g.day(), g.items(), g.sites(), g.lots(), g.orders(), g.transports());
        tell(g.account(0), g.account(1), g.account(2), g.account(3), g.account(4));
        for (int lot = 0; lot < g.lots(); lot++) {
            tell(g.ofLot(lot, 0), g.ofLot(lot, 1), g.ofLot(lot, 2), g.ofLot(lot, 3), g.ofLot(lot, 4));
        }
        for (int order = 0; order < g.orders(); order++) {
            tell(g.ofOrder(order, 0), g.ofOrder(order, 1), g.ofOrder(order, 2), g.ofOrder(order, 3));
            tell(g.ofOrder(order, 4));
            for (int lot = 0; lot < g.lots(); lot++) {
                if (g.reserved(order, lot) > 0) {
                    tell(lot, g.reserved(order, lot));
                }
            }
        }
        for (int transport = 0; transport < g.transports(); transport++) {
            for (int what = 0; what <= 5; what++) {
                tell(g.ofTransport(transport, what));
            }
        }
        for (int from = 0; from < g.sites(); from++) {
            for (int to = 0; to < g.sites(); to++) {
                tell(g.route(from, to));
            }
        }
        for (int item = 0; item < g.items(); item++) {
            for (int site = 0; site < g.sites(); site++) {
                tell(g.hasPolicy(item, site) ? 1 : 0, g.onHand(item, site), g.free(item, site));
                tell(g.underWay(item, site), g.position(item, site), g.lacks(item, site), g.spares(item, site));
                tell(g.rate(item, site, 7));
            }
        }
        for (int item = 0; item < g.items(); item++) {
            tell(g.classOf(item));
            for (int from = 0; from < g.sites(); from++) {
                for (int to = 0; to < g.sites(); to++) {
                    if (from != to) {
                        tell(g.planned(item, from, to));
                    }
                }
            }
        }
        for (int site = 0; site < g.sites(); site++) {
            tell(g.roomLeft(site));
        }
        return told.longValue();
    }

    private static void digestOfEachNumber() {
        Granary itemsAlone = new Granary();
        itemsAlone.addItem(1, 1, 1);
        itemsAlone.addItem(1, 1, 1);
        Check.same("44 without sites", itemsAlone.digest(), digestByHand(itemsAlone));
        Granary sitesAlone = new Granary();
        sitesAlone.addSite(7);
        sitesAlone.addSite(8);
        sitesAlone.setRoute(1, 0, 3);
        Check.same("44 without items", sitesAlone.digest(), digestByHand(sitesAlone));
        Granary g = new Granary();
        for (int item = 0; item < 3; item++) {
            g.addItem(9 + item, 3 + item, 1 + item);
        }
        for (int site = 0; site < 3; site++) {
            g.addSite(100 + site);
        }
        g.setRoute(0, 1, 2);
        g.setRoute(1, 2, 3);
        g.setRoute(2, 0, 4);
        g.setPolicy(0, 0, 0, 3, -1, 9);
        g.setPolicy(0, 1, 8, 9, 0, 0);
        g.setPolicy(2, 2, 5, 6, -1, 2);
        g.receive(0, 0, 20, 9);
        g.receive(0, 0, 5, 2);
        g.receive(1, 1, 30, 9);
        g.receive(2, 0, 4, 7);
        g.order(0, 0, 7, 2, 0, 0);
        g.order(0, 0, 3, 4, 0, 0);
        g.order(1, 1, 31, 1, 0, 0);
        g.order(2, 0, 1, 1, 0, 0);
        g.order(2, 0, 1, 1, 0, 0);
        g.cancel(4);
        g.ship(3);
        Check.same("44 on the day 0", g.digest(), digestByHand(g));
        Check.same("44 two lots for one order", g.reserved(0, 0) > 0 && g.reserved(0, 1) > 0, true);
        Check.same("44 a plan", g.planned(0, 0, 1) > 0, true);
        g.pass(1);
        Check.same("44 on the day 1", g.digest(), digestByHand(g));
    }

    /** "rate() over 7 days" */
    private static void digestOfSevenDays() {
        for (int gone = 5; gone <= 8; gone++) {
            Granary one = two();
            Granary other = two();
            one.order(0, 0, 5, 0, 0, 0);
            other.order(0, 0, 5, 0, 0, 0);
            one.pass(gone);
            other.pass(gone);
            Check.same("34 " + gone + " days ago", one.rate(0, 0, 7), gone <= 6 ? 5 : 0);
            Check.same("44 " + gone + " days ago", one.digest(), digestByHand(other));
        }
    }

    /** "for each LOT of which any units are RESERVED for it, by numbers, its number and how many" */
    private static void digestOfOneReservedUnit() {
        Granary g = two();
        g.receive(0, 0, 1, 9);
        g.receive(0, 0, 2, 4);
        g.receive(0, 0, 5, 8);
        g.receive(0, 0, 5, 8);
        g.order(0, 0, 7, 1, 0, 0);
        g.order(0, 0, 1, 1, 0, 0);
        g.order(0, 0, 6, 1, 0, 0);
        Check.same("44 one unit of a lot", g.reserved(1, 3), 1);
        Check.same("44 the lots by numbers, not by last days", g.reserved(2, 0), 1);
        Check.same("44 digest", g.digest(), digestByHand(g));
    }
}
