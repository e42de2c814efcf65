/** Section 2 of the document at its edges: which lots suit, how many units are taken, who comes first. */
public final class ReservingEdgesTest {
    public static void main(String[] args) {
        dueDayPlusKeep();
        theDayPlusKeep();
        dueDayBesideTheDay();
        keepIsAddedToTheLaterOne();
        itsItemAndSite();
        noMoreThanItIsFor();
        overSeveralLots();
        oneThatHasAll();
        lotWithoutFreeUnits();
        earliestLastDayFirst();
        ranksThenDueDaysThenNumbers();
        ranksByTheDay();
        onlyOpenOrders();
        staysWhenAnotherComesAhead();
        staysWhenTheLotSuitsNoLonger();
        shippingTakesAway();
        Check.end();
    }

    private static Granary one() {
        Granary g = new Granary();
        g.addItem(10, 5, 1);
        g.addSite(999);
        return g;
    }

    /** "its last day is not below the later one of its due day and the DAY, plus its keep": the due day is later */
    private static void dueDayPlusKeep() {
        for (int due : new int[] {0, 1, 7, 60}) {
            for (int keep : new int[] {0, 1, 7, 20}) {
                Granary just = one();
                just.receive(0, 0, 5, due + keep);
                just.order(0, 0, 5, due, 0, keep);
                Check.same("due " + due + ", keep " + keep + ", just late enough", just.ofOrder(0, 2), 5);
                if (due + keep > 0) {
                    Granary early = one();
                    early.receive(0, 0, 5, due + keep - 1);
                    early.order(0, 0, 5, due, 0, keep);
                    Check.same("due " + due + ", keep " + keep + ", a day too early", early.ofOrder(0, 2), 0);
                }
            }
        }
    }

    /** "... the later one of its due day and the DAY, plus its keep": the DAY is later */
    private static void theDayPlusKeep() {
        for (int due : new int[] {0, 1, 4}) {
            for (int keep : new int[] {0, 1, 7, 20}) {
                Granary g = one();
                g.order(0, 0, 5, due, 0, keep);
                g.pass(9);
                if (keep > 0) {
                    g.receive(0, 0, 5, keep - 1);
                    Check.same("keep " + keep + ", a day too early", g.reserveAnew(), 0);
                }
                g.receive(0, 0, 4, keep);
                Check.same("keep " + keep + ", just late enough", g.reserveAnew(), 4);
            }
        }
    }

    /** The same with the due day a day ahead of the DAY, on it, and a day behind it. */
    private static void dueDayBesideTheDay() {
        int[] dueInDays = {4, 5, 6};
        int[] least = {2, 2, 3};
        for (int i = 0; i < 3; i++) {
            Granary g = one();
            g.order(0, 0, 9, dueInDays[i], 0, 2);
            g.pass(5);
            g.receive(0, 0, 9, least[i] - 1);
            Check.same("due on " + dueInDays[i] + ", a day too early", g.reserveAnew(), 0);
            g.receive(0, 0, 9, least[i]);
            Check.same("due on " + dueInDays[i] + ", just late enough", g.reserveAnew(), 9);
        }
    }

    /** The keep is added to the later one of the two, not to one of them alone. */
    private static void keepIsAddedToTheLaterOne() {
        Granary g = one();
        g.pass(10);
        g.receive(0, 0, 5, 12);
        g.order(0, 0, 5, 9, 0, 4);
        Check.same("due on 19, kept to 23, and 22 is too early", g.ofOrder(0, 2), 0);
        Granary late = one();
        late.order(0, 0, 5, 1, 0, 4);
        late.pass(3);
        late.receive(0, 0, 5, 3);
        Check.same("due on 1, kept from 3 to 7, and 6 is too early", late.reserveAnew(), 0);
    }

    /** "A LOT suits an order, if it is of its item and site" */
    private static void itsItemAndSite() {
        Granary g = one();
        g.addItem(10, 5, 1);
        g.addSite(99);
        g.receive(1, 0, 5, 9);
        g.receive(0, 1, 5, 9);
        g.receive(1, 1, 5, 9);
        g.order(0, 0, 5, 1, 0, 0);
        Check.same("of another item, or site", g.ofOrder(0, 2), 0);
        g.receive(0, 0, 5, 9);
        g.reserveAnew();
        Check.same("of its item and site", g.reserved(0, 3), 5);
    }

    /** "as long as it has not as many as it is for" */
    private static void noMoreThanItIsFor() {
        for (int units : new int[] {1, 10, 99}) {
            for (int there = Math.max(1, units - 1); there <= units + 1; there++) {
                Granary g = one();
                g.receive(0, 0, there, 9);
                g.order(0, 0, units, 1, 0, 0);
                Check.same(units + " of " + there, g.ofOrder(0, 2), Math.min(units, there));
                Check.same(units + " of " + there + ", free", g.free(0, 0), there - Math.min(units, there));
            }
        }
    }

    private static void overSeveralLots() {
        for (int second = 5; second <= 7; second++) {
            Granary g = one();
            g.receive(0, 0, 4, 8);
            g.receive(0, 0, second, 9);
            g.receive(0, 0, 3, 10);
            g.order(0, 0, 10, 1, 0, 0);
            Check.same("the first one, all", g.reserved(0, 0), 4);
            Check.same("the second one, as many as are wanted still", g.reserved(0, 1), Math.min(second, 6));
            Check.same("the third one, if any are wanted still", g.reserved(0, 2), second == 5 ? 1 : 0);
            Check.same("all together", g.ofOrder(0, 2), 10);
        }
    }

    private static void oneThatHasAll() {
        Granary g = one();
        g.receive(0, 0, 30, 9);
        g.order(0, 0, 10, 5, 0, 0);
        g.pass(1);
        Check.same("reserved for again, it has no more", g.ofOrder(0, 2), 10);
        Check.same("none is left over", g.free(0, 0), 20);
    }

    /** "FREE units of LOTS that suit it" */
    private static void lotWithoutFreeUnits() {
        Granary g = one();
        g.receive(0, 0, 5, 6);
        g.receive(0, 0, 5, 9);
        g.order(0, 0, 5, 1, 0, 0);
        g.order(0, 0, 3, 1, 0, 0);
        Check.same("all of it are reserved", g.reserved(1, 0), 0);
        Check.same("the next one", g.reserved(1, 1), 3);
    }

    /** "of the one with the earliest last day first, of several the one with the smallest number" */
    private static void earliestLastDayFirst() {
        int[][] lastDays = {{7, 6, 8}, {7, 8, 6}, {6, 7, 8}, {7, 7, 7}, {8, 7, 7}, {7, 8, 7}};
        int[] first = {1, 2, 0, 0, 1, 0};
        for (int i = 0; i < first.length; i++) {
            Granary g = one();
            for (int days : lastDays[i]) {
                g.receive(0, 0, 5, days);
            }
            g.order(0, 0, 5, 1, 0, 0);
            for (int lot = 0; lot < 3; lot++) {
                Check.same("case " + i + ", lot " + lot, g.reserved(0, lot), lot == first[i] ? 5 : 0);
            }
        }
        Granary g = one();
        g.receive(0, 0, 5, 3);
        g.receive(0, 0, 5, 4);
        g.order(0, 0, 5, 4, 0, 0);
        Check.same("the earliest of those that suit", g.reserved(0, 1), 5);
    }

    /** "by ranks, then by due days, then by numbers", the rank "0 first" */
    private static void ranksThenDueDaysThenNumbers() {
        int[][] rankDue = {{5, 1, 4, 9}, {9, 1, 0, 60}, {1, 9, 0, 9}, {3, 8, 3, 7}, {3, 1, 3, 0}, {3, 7, 3, 7}};
        int[] ahead = {1, 1, 1, 1, 1, 0};
        for (int i = 0; i < ahead.length; i++) {
            Granary g = one();
            g.order(0, 0, 5, rankDue[i][1], rankDue[i][0], 0);
            g.order(0, 0, 5, rankDue[i][3], rankDue[i][2], 0);
            g.receive(0, 0, 7, 80);
            Check.same("all together", g.reserveAnew(), 7);
            Check.same("case " + i + ", the one ahead", g.ofOrder(ahead[i], 2), 5);
            Check.same("case " + i + ", the other one", g.ofOrder(1 - ahead[i], 2), 2);
        }
        Granary g = one();
        int[] ranks = {2, 1, 2, 0, 1, 0};
        int[] dues = {9, 8, 7, 6, 6, 5};
        for (int order = 0; order < 6; order++) {
            g.order(0, 0, 1, dues[order], ranks[order], 0);
        }
        int[] row = {5, 3, 4, 1, 2, 0};
        for (int place = 0; place < 6; place++) {
            g.receive(0, 0, 1, 9);
            g.reserveAnew();
            for (int order = 0; order < 6; order++) {
                int due = 0;
                for (int ahd = 0; ahd <= place; ahd++) {
                    due = row[ahd] == order ? 1 : due;
                }
                Check.same("of six, " + place + " ahead, order " + order, g.ofOrder(order, 2), due);
            }
        }
    }

    /** The same order as a day goes by. */
    private static void ranksByTheDay() {
        Granary g = one();
        g.order(0, 0, 5, 9, 3, 0);
        g.order(0, 0, 5, 8, 3, 0);
        g.order(0, 0, 5, 9, 2, 0);
        g.receive(0, 0, 11, 20);
        g.pass(1);
        Check.same("by ranks", g.ofOrder(2, 2), 5);
        Check.same("then by due days", g.ofOrder(1, 2), 5);
        Check.same("then the other one", g.ofOrder(0, 2), 1);
    }

    /** "all orders that are OPEN" */
    private static void onlyOpenOrders() {
        Granary g = one();
        g.order(0, 0, 5, 9, 0, 0);
        g.order(0, 0, 5, 9, 1, 0);
        g.receive(0, 0, 20, 20);
        g.reserveAnew();
        g.cancel(0);
        g.ship(1);
        g.order(0, 0, 5, 9, 2, 0);
        Check.same("one is open", g.reserveAnew(), 5);
        g.pass(1);
        Check.same("cancelled", g.ofOrder(0, 2), 0);
        Check.same("shipped", g.ofOrder(1, 2), 0);
        Check.same("free", g.free(0, 0), 10);
    }

    /** "What is RESERVED stays with its order, also if another one would come ahead now" */
    private static void staysWhenAnotherComesAhead() {
        Granary g = one();
        g.receive(0, 0, 5, 20);
        g.order(0, 0, 5, 9, 9, 0);
        g.order(0, 0, 5, 3, 0, 0);
        g.pass(1);
        Check.same("it stays", g.ofOrder(0, 2), 5);
        Check.same("the one ahead gets nothing", g.ofOrder(1, 2), 0);
        g.pass(2);
        Check.same("the one ahead is short", g.account(2), 5);
        g.reserveAnew();
        Check.same("till it is freed for all", g.ofOrder(1, 2), 5);
        Check.same("till it is freed for all", g.ofOrder(0, 2), 0);
    }

    /** "... or the LOT suits the order no longer" */
    private static void staysWhenTheLotSuitsNoLonger() {
        Granary g = one();
        g.receive(0, 0, 6, 4);
        g.order(0, 0, 10, 1, 0, 3);
        g.pass(1);
        Check.same("it suits still", g.reserveAnew(), 6);
        g.pass(1);
        Check.same("it suits no longer, and stays", g.reserved(0, 0), 6);
        g.receive(0, 0, 4, 6);
        g.pass(1);
        Check.same("on the DAY 3: shipped with both", g.ofOrder(0, 4), 3);
        Check.same("on the DAY 3: shipped with both", g.onHand(0, 0), 0);
        Granary anew = one();
        anew.receive(0, 0, 6, 4);
        anew.order(0, 0, 10, 1, 0, 3);
        anew.pass(2);
        Check.same("freed, it is not taken again", anew.reserveAnew(), 0);
    }

    /** "SHIPPED by taking away the units that are RESERVED for it; none are RESERVED for it then" */
    private static void shippingTakesAway() {
        for (int way = 0; way < 2; way++) {
            Granary g = one();
            g.receive(0, 0, 6, 5);
            g.receive(0, 0, 6, 4);
            g.order(0, 0, 9, 1, 0, 0);
            g.order(0, 0, 2, 3, 0, 0);
            if (way == 0) {
                g.ship(0);
            } else {
                g.pass(1);
            }
            Check.same("shipped", g.ofOrder(0, 0), 1);
            Check.same("taken away", g.ofLot(1, 2), 0);
            Check.same("taken away", g.ofLot(0, 2), 3);
            Check.same("none are reserved for it", g.ofOrder(0, 2), 0);
            Check.same("none are reserved for it", g.reserved(0, 0) + g.reserved(0, 1), 0);
            Check.same("those of the other one stay", g.reserved(1, 0), 2);
            Check.same("reserved of the lot", g.ofLot(0, 3), 2);
            Check.same("reserved of the other lot", g.ofLot(1, 3), 0);
        }
    }
}
