/** Section 7 of the document, and the promises 38 to 40 and 13, at their edges: lacking, sparing, the plan. */
public final class BalancingEdgesTest {
    public static void main(String[] args) {
        withoutAPolicy();
        lacksAtThePoint();
        sparesAtTheTop();
        noMoreThanAreFree();
        whateverTheirLastDays();
        withoutARoute();
        noMoreThanSpareOrLack();
        asManyAsCanBeInAll();
        notByWayOfAnother();
        costsLeast();
        anotherWayAsFarAsItGoes();
        mostFromTheFirst();
        mostToTheFirst();
        tiesOnlyAmongTheCheapest();
        onePlanForEachItem();
        balanceInOrder();
        asFarAsLotsLast();
        earlierPairsTakeTheEarlierLots();
        balanceWithoutAPlan();
        moreThanASendTakes();
        Check.end();
    }

    private static Granary sites(int count) {
        Granary g = new Granary();
        g.addItem(50, 1, 1);
        g.addItem(50, 1, 1);
        for (int site = 0; site < count; site++) {
            g.addSite(9999);
        }
        return g;
    }

    private static void spare(Granary g, int site, int units) {
        g.receive(0, site, units, 60);
        g.setPolicy(0, site, 0, 0, -1, 1);
    }

    private static void lack(Granary g, int site, int units) {
        g.setPolicy(0, site, units, 999, -1, 1);
    }

    /** Sets routes from each site to each other one; 0 stands for none. */
    private static void routes(Granary g, int[][] days) {
        for (int from = 0; from < days.length; from++) {
            for (int to = 0; to < days.length; to++) {
                if (from != to) {
                    g.setRoute(from, to, days[from][to]);
                }
            }
        }
    }

    private static void plan(String name, Granary g, int[][] due) {
        for (int from = 0; from < due.length; from++) {
            for (int to = 0; to < due.length; to++) {
                Check.same(name + ", planned from " + from + " to " + to, g.planned(0, from, to), due[from][to]);
            }
        }
    }

    /** "0 without a POLICY" */
    private static void withoutAPolicy() {
        Granary g = sites(2);
        g.setRoute(0, 1, 1);
        g.receive(0, 0, 50, 60);
        g.order(0, 1, 50, 60, 0, 0);
        Check.same("38 without a policy", g.lacks(0, 1), 0);
        Check.same("39 without a policy", g.spares(0, 0), 0);
        g.setPolicy(1, 0, 5, 5, -1, 1);
        g.setPolicy(1, 1, 5, 5, -1, 1);
        Check.same("38 with one of another item", g.lacks(0, 1), 0);
        Check.same("39 with one of another item", g.spares(0, 0), 0);
        lack(g, 1, 7);
        Check.same("38 with a policy", g.lacks(0, 1), 57);
        Check.same("40 one side has none", g.planned(0, 0, 1), 0);
        Check.same("13 one side has none", g.balance(0), 0);
        g.setPolicy(0, 0, 0, 0, -1, 1);
        Check.same("39 with a policy", g.spares(0, 0), 50);
        Check.same("40 both have one", g.planned(0, 0, 1), 50);
        g.setRoute(1, 0, 1);
        g.setPolicy(0, 0, 0, 0, 1, 1);
        g.setRoute(1, 0, 0);
        Check.same("39 it is gone", g.spares(0, 0), 0);
        Check.same("40 it is gone", g.planned(0, 0, 1), 0);
    }

    /** "LACKS point less POSITION, if that is above 0" */
    private static void lacksAtThePoint() {
        int[][] pointPositionDue = {{5, 6, 0}, {5, 5, 0}, {5, 4, 1}, {5, 0, 5}, {5, -1, 6}, {0, 0, 0}, {0, 1, 0},
            {0, -1, 1}, {999, 998, 1}, {999, 0, 999}, {999, -99, 1098}, {999, 999, 0}};
        for (int[] p : pointPositionDue) {
            Granary g = sites(1);
            if (p[1] > 0) {
                g.receive(0, 0, p[1], 60);
            } else if (p[1] < 0) {
                g.order(0, 0, -p[1], 60, 0, 0);
            }
            g.setPolicy(0, 0, p[0], 999, -1, 1);
            Check.same("38 point " + p[0] + ", position " + p[1], g.lacks(0, 0), p[2]);
            Check.same("39 top 999", g.spares(0, 0), 0);
        }
    }

    /** "can SPARE POSITION less top, if that is above 0" */
    private static void sparesAtTheTop() {
        int[][] topPositionDue = {{5, 4, 0}, {5, 5, 0}, {5, 6, 1}, {5, 99, 94}, {0, 0, 0}, {0, 1, 1}, {998, 999, 1},
            {999, 999, 0}};
        for (int[] t : topPositionDue) {
            Granary g = sites(1);
            if (t[1] > 0) {
                g.receive(0, 0, t[1], 60);
            }
            g.setPolicy(0, 0, 0, t[0], -1, 1);
            Check.same("39 top " + t[0] + ", position " + t[1], g.spares(0, 0), t[2]);
            Check.same("38 point 0", g.lacks(0, 0), 0);
        }
    }

    /** "but no more than are FREE there" */
    private static void noMoreThanAreFree() {
        for (int free = 0; free <= 12; free++) {
            Granary g = sites(2);
            g.setRoute(1, 0, 9);
            g.receive(0, 1, 20, 60);
            g.send(0, 1, 0, 20);
            if (free > 0) {
                g.receive(0, 0, free, 60);
            }
            g.setPolicy(0, 0, 0, 12 + free, -1, 1);
            Check.same("39 8 above the top, free " + free, g.spares(0, 0), Math.min(8, free));
        }
        Granary reserved = sites(2);
        reserved.receive(0, 0, 9, 60);
        reserved.setPolicy(0, 0, 0, 0, -1, 1);
        reserved.order(0, 0, 4, 9, 0, 0);
        Check.same("39 reserved ones are not free", reserved.spares(0, 0), 5);
        reserved.order(0, 0, 5, 9, 0, 0);
        Check.same("39 none is free", reserved.spares(0, 0), 0);
    }

    /** "(whatever their last days)" */
    private static void whateverTheirLastDays() {
        Granary g = sites(2);
        g.setRoute(0, 1, 9);
        g.receive(0, 0, 4, 0);
        g.receive(0, 0, 3, 9);
        g.receive(0, 0, 2, 10);
        g.setPolicy(0, 0, 0, 0, -1, 1);
        lack(g, 1, 20);
        Check.same("39 spares", g.spares(0, 0), 9);
        Check.same("40 planned", g.planned(0, 0, 1), 9);
        Check.same("13 as far as lots last long enough", g.balance(0), 2);
    }

    /** "for each two sites, between which a ROUTE leads from the first one to the second one" */
    private static void withoutARoute() {
        Granary g = sites(3);
        spare(g, 1, 5);
        lack(g, 0, 5);
        lack(g, 2, 5);
        plan("40 no route", g, new int[][] {{0, 0, 0}, {0, 0, 0}, {0, 0, 0}});
        g.setRoute(0, 1, 1);
        g.setRoute(0, 2, 1);
        g.setRoute(2, 0, 1);
        plan("40 the other way", g, new int[][] {{0, 0, 0}, {0, 0, 0}, {0, 0, 0}});
        g.setRoute(1, 2, 9);
        plan("40 one route", g, new int[][] {{0, 0, 0}, {0, 0, 5}, {0, 0, 0}});
        g.setRoute(1, 0, 8);
        plan("40 a shorter one", g, new int[][] {{0, 0, 0}, {5, 0, 0}, {0, 0, 0}});
        g.setRoute(1, 0, 0);
        plan("40 it is gone", g, new int[][] {{0, 0, 0}, {0, 0, 5}, {0, 0, 0}});
        Granary way = sites(3);
        spare(way, 0, 5);
        way.setPolicy(0, 1, 0, 0, -1, 1);
        lack(way, 2, 5);
        way.setRoute(0, 1, 1);
        way.setRoute(1, 2, 1);
        plan("40 not by way of another site", way, new int[][] {{0, 0, 0}, {0, 0, 0}, {0, 0, 0}});
    }

    /** "from a site no more than it can SPARE, to a site no more than it LACKS; as many as can be in all" */
    private static void noMoreThanSpareOrLack() {
        for (int spare = 4; spare <= 6; spare++) {
            Granary g = sites(2);
            spare(g, 0, spare);
            lack(g, 1, 5);
            g.setRoute(0, 1, 3);
            Check.same("40 spare " + spare + ", lack 5", g.planned(0, 0, 1), Math.min(spare, 5));
        }
        Granary two = sites(4);
        spare(two, 0, 4);
        spare(two, 1, 4);
        lack(two, 2, 7);
        lack(two, 3, 2);
        routes(two, new int[][] {{0, 0, 1, 0}, {0, 0, 1, 1}, {0, 0, 0, 0}, {0, 0, 0, 0}});
        plan("40 of two sites to two", two, new int[][] {{0, 0, 4, 0}, {0, 0, 3, 1}, {0, 0, 0, 0}, {0, 0, 0, 0}});
        Granary none = sites(3);
        none.setPolicy(0, 0, 0, 0, -1, 1);
        lack(none, 1, 5);
        lack(none, 2, 5);
        routes(none, new int[][] {{0, 1, 1}, {1, 0, 1}, {1, 1, 0}});
        plan("40 none can spare", none, new int[][] {{0, 0, 0}, {0, 0, 0}, {0, 0, 0}});
    }

    /** More units go ahead of fewer days. */
    private static void asManyAsCanBeInAll() {
        Granary g = sites(4);
        spare(g, 0, 1);
        spare(g, 1, 1);
        lack(g, 2, 1);
        lack(g, 3, 1);
        routes(g, new int[][] {{0, 0, 1, 9}, {0, 0, 9, 0}, {0, 0, 0, 0}, {0, 0, 0, 0}});
        plan("40 two units of 18 days", g, new int[][] {{0, 0, 0, 1}, {0, 0, 1, 0}, {0, 0, 0, 0}, {0, 0, 0, 0}});
        Granary chain = sites(5);
        spare(chain, 2, 3);
        spare(chain, 4, 3);
        lack(chain, 0, 3);
        lack(chain, 1, 2);
        lack(chain, 3, 2);
        chain.setRoute(2, 0, 1);
        chain.setRoute(2, 1, 9);
        chain.setRoute(4, 0, 9);
        chain.setRoute(4, 3, 9);
        Check.same("40 all six, the near pair as far as that leaves it", chain.planned(0, 2, 0), 2);
        Check.same("40 all six", chain.planned(0, 2, 1), 1);
        Check.same("40 all six", chain.planned(0, 4, 0), 1);
        Check.same("40 all six", chain.planned(0, 4, 3), 2);
    }

    /** A site that lacks sends nothing on, and a site that can spare takes nothing in. */
    private static void notByWayOfAnother() {
        Granary lacking = sites(3);
        spare(lacking, 0, 5);
        lack(lacking, 1, 2);
        lack(lacking, 2, 3);
        lacking.setRoute(0, 1, 1);
        lacking.setRoute(1, 2, 1);
        plan("40 by way of one that lacks", lacking, new int[][] {{0, 2, 0}, {0, 0, 0}, {0, 0, 0}});
        Granary sparing = sites(3);
        spare(sparing, 0, 5);
        spare(sparing, 1, 2);
        lack(sparing, 2, 6);
        sparing.setRoute(0, 1, 1);
        sparing.setRoute(1, 2, 1);
        plan("40 by way of one that spares", sparing, new int[][] {{0, 0, 0}, {0, 0, 2}, {0, 0, 0}});
    }

    /** Units that were on a cheap pair at first go another way, as many as there are of them and no more. */
    private static void anotherWayAsFarAsItGoes() {
        Granary g = sites(4);
        spare(g, 0, 3);
        spare(g, 1, 5);
        lack(g, 2, 3);
        lack(g, 3, 5);
        g.setRoute(0, 2, 1);
        g.setRoute(0, 3, 3);
        g.setRoute(1, 2, 2);
        plan("40 three go another way", g, new int[][] {{0, 0, 0, 3}, {0, 0, 3, 0}, {0, 0, 0, 0}, {0, 0, 0, 0}});
        Granary part = sites(4);
        spare(part, 0, 5);
        spare(part, 1, 9);
        lack(part, 2, 5);
        lack(part, 3, 2);
        part.setRoute(0, 2, 1);
        part.setRoute(0, 3, 3);
        part.setRoute(1, 2, 2);
        plan("40 two of five go another way", part, new int[][] {{0, 0, 3, 2}, {0, 0, 2, 0}, {0, 0, 0, 0},
            {0, 0, 0, 0}});
        Granary longer = sites(5);
        spare(longer, 0, 4);
        spare(longer, 1, 9);
        lack(longer, 2, 4);
        lack(longer, 3, 4);
        lack(longer, 4, 9);
        longer.setRoute(0, 2, 1);
        longer.setRoute(0, 4, 9);
        longer.setRoute(1, 2, 2);
        longer.setRoute(1, 3, 1);
        plan("40 four go another way, one stays", longer, new int[][] {{0, 0, 0, 0, 4}, {0, 0, 4, 4, 0},
            {0, 0, 0, 0, 0}, {0, 0, 0, 0, 0}, {0, 0, 0, 0, 0}});
    }

    /** "of those plans one that costs least, each unit the days of its ROUTE" */
    private static void costsLeast() {
        int[][] daysDue = {{1, 2, 2, 9, 0}, {1, 1, 1, 9, 0}, {1, 5, 5, 8, 0}, {9, 1, 1, 1, 0}, {1, 5, 5, 9, 1},
            {1, 5, 5, 7, 0}, {1, 9, 9, 1, 0}, {1, 4, 3, 5, 1}, {1, 4, 3, 7, 1}, {1, 4, 3, 4, 0}};
        for (int[] d : daysDue) {
            Granary g = sites(4);
            spare(g, 0, 6);
            spare(g, 1, 6);
            lack(g, 2, 6);
            lack(g, 3, 6);
            routes(g, new int[][] {{0, 0, d[0], d[1]}, {0, 0, d[2], d[3]}, {0, 0, 0, 0}, {0, 0, 0, 0}});
            int straight = d[0] + d[3] <= d[1] + d[2] ? 6 : 0;
            String name = "40 days " + d[0] + " " + d[1] + " " + d[2] + " " + d[3];
            plan(name, g, new int[][] {{0, 0, straight, 6 - straight}, {0, 0, 6 - straight, straight},
                {0, 0, 0, 0}, {0, 0, 0, 0}});
        }
        Granary near = sites(3);
        spare(near, 1, 4);
        lack(near, 0, 9);
        lack(near, 2, 9);
        near.setRoute(1, 0, 2);
        near.setRoute(1, 2, 1);
        plan("40 the nearer one", near, new int[][] {{0, 0, 0}, {0, 0, 4}, {0, 0, 0}});
        Granary from = sites(3);
        spare(from, 0, 9);
        spare(from, 2, 9);
        lack(from, 1, 4);
        from.setRoute(0, 1, 2);
        from.setRoute(2, 1, 1);
        plan("40 from the nearer one", from, new int[][] {{0, 0, 0}, {0, 0, 0}, {0, 4, 0}});
    }

    /** "of several the one with the most units from the site 0 to the site 1, of several that ... from 0 to 2" */
    private static void mostFromTheFirst() {
        Granary g = sites(5);
        spare(g, 0, 3);
        spare(g, 2, 3);
        spare(g, 4, 3);
        lack(g, 1, 4);
        lack(g, 3, 4);
        for (int from = 0; from <= 4; from += 2) {
            g.setRoute(from, 1, 5);
            g.setRoute(from, 3, 5);
        }
        plan("40 eight of nine", g, new int[][] {{0, 3, 0, 0, 0}, {0, 0, 0, 0, 0}, {0, 1, 0, 2, 0}, {0, 0, 0, 0, 0},
            {0, 0, 0, 2, 0}});
        Granary last = sites(3);
        spare(last, 0, 5);
        spare(last, 1, 5);
        lack(last, 2, 7);
        last.setRoute(0, 2, 4);
        last.setRoute(1, 2, 4);
        plan("40 the first site first", last, new int[][] {{0, 0, 5}, {0, 0, 2}, {0, 0, 0}});
    }

    private static void mostToTheFirst() {
        Granary g = sites(5);
        spare(g, 0, 9);
        for (int to = 1; to < 5; to++) {
            lack(g, to, 4);
            g.setRoute(0, to, 7);
        }
        plan("40 by the second site", g, new int[][] {{0, 4, 4, 1, 0}, {0, 0, 0, 0, 0}, {0, 0, 0, 0, 0},
            {0, 0, 0, 0, 0}, {0, 0, 0, 0, 0}});
        Granary late = sites(5);
        spare(late, 4, 9);
        for (int to = 0; to < 4; to++) {
            lack(late, to, 4);
            late.setRoute(4, to, 7);
        }
        plan("40 by the second site", late, new int[][] {{0, 0, 0, 0, 0}, {0, 0, 0, 0, 0}, {0, 0, 0, 0, 0},
            {0, 0, 0, 0, 0}, {4, 4, 1, 0, 0}});
    }

    /** The most from 0 to 1 counts among the cheapest plans alone, and an earlier pair more than all later ones. */
    private static void tiesOnlyAmongTheCheapest() {
        Granary dear = sites(3);
        spare(dear, 0, 4);
        lack(dear, 1, 4);
        lack(dear, 2, 4);
        dear.setRoute(0, 1, 6);
        dear.setRoute(0, 2, 5);
        plan("40 a day less goes ahead", dear, new int[][] {{0, 0, 4}, {0, 0, 0}, {0, 0, 0}});
        Granary g = sites(5);
        spare(g, 0, 2);
        spare(g, 1, 2);
        spare(g, 2, 2);
        lack(g, 3, 3);
        lack(g, 4, 3);
        routes(g, new int[][] {{0, 0, 0, 3, 2}, {0, 0, 0, 2, 1}, {0, 0, 0, 2, 1}, {0, 0, 0, 0, 0}, {0, 0, 0, 0, 0}});
        plan("40 all plans cost the same", g, new int[][] {{0, 0, 0, 2, 0}, {0, 0, 0, 1, 1}, {0, 0, 0, 0, 2},
            {0, 0, 0, 0, 0}, {0, 0, 0, 0, 0}});
        Granary only = sites(4);
        spare(only, 0, 5);
        spare(only, 1, 5);
        lack(only, 2, 5);
        lack(only, 3, 5);
        routes(only, new int[][] {{0, 0, 2, 2}, {0, 0, 2, 1}, {0, 0, 0, 0}, {0, 0, 0, 0}});
        plan("40 one plan is cheapest", only, new int[][] {{0, 0, 5, 0}, {0, 0, 0, 5}, {0, 0, 0, 0}, {0, 0, 0, 0}});
        routes(only, new int[][] {{0, 0, 2, 1}, {0, 0, 2, 2}, {0, 0, 0, 0}, {0, 0, 0, 0}});
        plan("40 the other one is", only, new int[][] {{0, 0, 0, 5}, {0, 0, 5, 0}, {0, 0, 0, 0}, {0, 0, 0, 0}});
    }

    private static void onePlanForEachItem() {
        Granary tops = sites(2);
        for (int at = 0; at < 4; at++) {
            tops.receive(at / 2, at % 2, 50, 9);
            tops.setPolicy(at / 2, at % 2, 0, 10 + at, -1, 1);
        }
        for (int at = 0; at < 4; at++) {
            Check.same("39 each item and site has its own top", tops.spares(at / 2, at % 2), 40 - at);
        }
        Granary g = sites(2);
        g.setRoute(0, 1, 2);
        spare(g, 0, 5);
        lack(g, 1, 5);
        g.receive(1, 0, 9, 60);
        g.setPolicy(1, 0, 0, 1, -1, 1);
        g.setPolicy(1, 1, 3, 9, -1, 1);
        Check.same("40 of the item 0", g.planned(0, 0, 1), 5);
        Check.same("40 of the item 1", g.planned(1, 0, 1), 3);
        Check.same("13 of the item 1", g.balance(1), 3);
        Check.same("13 the item 0 stays", g.onHand(0, 0), 5);
        Check.same("40 of the item 0 still", g.planned(0, 0, 1), 5);
        Check.same("40 of the item 1 no more", g.planned(1, 0, 1), 0);
    }

    /** "sends what it tells, by the first, then by the second site" */
    private static void balanceInOrder() {
        Granary g = sites(5);
        spare(g, 3, 3);
        spare(g, 1, 3);
        lack(g, 4, 2);
        lack(g, 2, 2);
        lack(g, 0, 2);
        for (int to = 0; to <= 4; to += 2) {
            g.setRoute(1, to, 2);
            g.setRoute(3, to, 2);
        }
        Check.same("13 balance", g.balance(0), 6);
        int[][] toUnits = {{0, 2}, {2, 1}, {2, 1}, {4, 2}};
        Check.same("13 transports", g.transports(), 4);
        for (int transport = 0; transport < 4; transport++) {
            Check.same("13 to", g.ofTransport(transport, 1), toUnits[transport][0]);
            Check.same("13 units", g.ofTransport(transport, 2), toUnits[transport][1]);
        }
        Check.same("13 from", g.onHand(0, 1) + g.onHand(0, 3), 0);
    }

    /** "(as far as LOTS last long enough)" */
    private static void asFarAsLotsLast() {
        for (int last = 3; last <= 5; last++) {
            Granary g = sites(2);
            g.setRoute(0, 1, 4);
            g.receive(0, 0, 6, last);
            g.receive(0, 0, 2, 30);
            g.setPolicy(0, 0, 0, 0, -1, 1);
            lack(g, 1, 7);
            Check.same("13 the plan", g.planned(0, 0, 1), 7);
            Check.same("13 a last day of " + last, g.balance(0), last == 5 ? 7 : 2);
            Check.same("13 the others stay", g.onHand(0, 0), last == 5 ? 1 : 6);
            Check.same("13 one transport for each lot", g.transports(), last == 5 ? 2 : 1);
        }
        Granary none = sites(2);
        none.setRoute(0, 1, 4);
        none.receive(0, 0, 6, 4);
        none.setPolicy(0, 0, 0, 0, -1, 1);
        lack(none, 1, 7);
        Check.same("13 none lasts", none.balance(0), 0);
        Check.same("13 no transport", none.transports(), 0);
    }

    private static void earlierPairsTakeTheEarlierLots() {
        for (int far = 1; far <= 2; far++) {
            Granary g = sites(3);
            g.setRoute(0, far, 5);
            g.setRoute(0, 3 - far, 1);
            g.receive(0, 0, 5, 40);
            g.receive(0, 0, 5, 3);
            g.setPolicy(0, 0, 0, 0, -1, 1);
            lack(g, 1, 5);
            lack(g, 2, 5);
            Check.same("13 both have a lot that lasts", g.balance(0), 10);
            Check.same("13 the far one", g.ofTransport(far - 1, 4), 40);
            Check.same("13 the near one", g.ofTransport(2 - far, 4), 3);
        }
    }

    private static void balanceWithoutAPlan() {
        Granary g = sites(2);
        Check.same("13 nothing there", g.balance(0), 0);
        g.setRoute(0, 1, 1);
        spare(g, 0, 5);
        g.setPolicy(0, 1, 0, 9, -1, 1);
        Check.same("13 nothing lacks", g.balance(0), 0);
        lack(g, 1, 1);
        Check.same("13 one lacks", g.balance(0), 1);
        Check.same("13 no more", g.balance(0), 0);
        Check.same("13 one site alone", sites(1).balance(1), 0);
    }

    /** The 999 units of send() are no bound of a plan, nor of what a policy takes from another site. */
    private static void moreThanASendTakes() {
        Granary g = sites(2);
        g.setRoute(0, 1, 1);
        g.receive(0, 0, 999, 60);
        g.receive(0, 0, 999, 60);
        g.setPolicy(0, 0, 0, 0, -1, 1);
        g.setPolicy(0, 1, 999, 999, -1, 1);
        g.order(0, 1, 99, 60, 0, 0);
        Check.same("40 planned", g.planned(0, 0, 1), 1098);
        Check.same("13 balance", g.balance(0), 1098);
        Check.same("13 what is left", g.onHand(0, 0), 900);
        Granary review = sites(2);
        review.setRoute(0, 1, 1);
        review.receive(0, 0, 999, 60);
        review.receive(0, 0, 999, 60);
        review.setPolicy(0, 1, 0, 999, 0, 1);
        review.order(0, 1, 99, 60, 0, 0);
        review.pass(1);
        Check.same("11 by a policy from another site", review.underWay(0, 1), 1098);
    }
}
