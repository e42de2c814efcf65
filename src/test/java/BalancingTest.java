import java.util.Random;

/** Promises 38 to 40 and 13, and section 7: the plan is that of all plans that the document wants. */
public final class BalancingTest {
    public static void main(String[] args) {
        lacksAndSpares();
        wrongNumbers();
        cheapestPlan();
        asManyAsCanBe();
        firstOfSeveral();
        balanceSendsThePlan();
        for (int seed = 0; seed < 1500; seed++) {
            likeAllPlansTried(new Random(seed));
        }
        for (int seed = 0; seed < 1500; seed++) {
            likeTheModel(new Random(seed));
        }
        Check.end();
    }

    private static Granary sites(int count) {
        Granary g = new Granary();
        g.addItem(50, 1, 1);
        for (int site = 0; site < count; site++) {
            g.addSite(9999);
        }
        return g;
    }

    private static void spare(Granary g, int site, int units) {
        g.receive(0, site, units, 60);
        g.setPolicy(0, site, 0, 0, -1, 1);
    }

    private static void lack(Granary g, int site, int units) {
        g.setPolicy(0, site, units, 999, -1, 1);
    }

    private static void lacksAndSpares() {
        Granary g = sites(2);
        g.receive(0, 0, 20, 0);
        Check.same("38 without a policy", g.lacks(0, 0), 0);
        Check.same("39 without a policy", g.spares(0, 0), 0);
        g.setPolicy(0, 0, 3, 8, -1, 1);
        g.setPolicy(0, 1, 3, 8, -1, 1);
        Check.same("38 lacks", g.lacks(0, 0), 0);
        Check.same("38 lacks", g.lacks(0, 1), 3);
        Check.same("39 spares, whatever the last day", g.spares(0, 0), 12);
        Check.same("39 spares", g.spares(0, 1), 0);
        g.setPolicy(0, 0, 20, 20, -1, 1);
        Check.same("38 at the point", g.lacks(0, 0), 0);
        Check.same("39 at the top", g.spares(0, 0), 0);
        g.setPolicy(0, 0, 21, 21, -1, 1);
        Check.same("38 one below", g.lacks(0, 0), 1);
        g.setPolicy(0, 0, 0, 19, -1, 1);
        Check.same("39 one above", g.spares(0, 0), 1);
        g.order(0, 1, 10, 9, 0, 0);
        Check.same("38 with what orders are for", g.lacks(0, 1), 13);
        Granary way = sites(2);
        way.setRoute(0, 1, 3);
        way.receive(0, 0, 30, 50);
        way.send(0, 0, 1, 25);
        way.receive(0, 1, 4, 50);
        way.setPolicy(0, 1, 2, 10, -1, 1);
        Check.same("39 no more than are free there", way.spares(0, 1), 4);
    }

    private static void wrongNumbers() {
        Granary g = sites(2);
        int[][] bad = {{-1, 0}, {1, 0}, {0, -1}, {0, 2}, {Integer.MIN_VALUE, 0}, {0, Integer.MAX_VALUE}};
        for (int[] b : bad) {
            Check.noIndex("38 lacks", g, () -> g.lacks(b[0], b[1]));
            Check.noIndex("39 spares", g, () -> g.spares(b[0], b[1]));
            Check.noIndex("40 planned, from", g, () -> g.planned(b[0], b[1], 0));
            Check.noIndex("40 planned, to", g, () -> g.planned(b[0], 0, b[1]));
        }
        Check.same("40 both the same", g.planned(0, 1, 1), 0);
    }

    private static void cheapestPlan() {
        Granary g = sites(4);
        spare(g, 0, 10);
        spare(g, 1, 10);
        lack(g, 2, 10);
        lack(g, 3, 10);
        g.setRoute(0, 2, 1);
        g.setRoute(0, 3, 2);
        g.setRoute(1, 2, 2);
        g.setRoute(1, 3, 9);
        Check.same("40 the nearest pair is not of the cheapest plan", g.planned(0, 0, 2), 0);
        Check.same("40 planned", g.planned(0, 0, 3), 10);
        Check.same("40 planned", g.planned(0, 1, 2), 10);
        Check.same("40 planned", g.planned(0, 1, 3), 0);
        Check.same("40 the other way", g.planned(0, 2, 0), 0);
    }

    private static void asManyAsCanBe() {
        Granary g = sites(4);
        spare(g, 0, 7);
        spare(g, 1, 5);
        lack(g, 2, 6);
        lack(g, 3, 9);
        g.setRoute(0, 2, 1);
        g.setRoute(0, 3, 9);
        g.setRoute(1, 2, 9);
        Check.same("40 as many as can be go ahead of what they cost", g.planned(0, 1, 2), 5);
        Check.same("40 planned", g.planned(0, 0, 3), 6);
        Check.same("40 planned", g.planned(0, 0, 2), 1);
        g.setRoute(0, 3, 0);
        Check.same("40 without that route", g.planned(0, 0, 2), 6);
        Check.same("40 without that route", g.planned(0, 1, 2), 0);
    }

    private static void firstOfSeveral() {
        Granary g = sites(5);
        spare(g, 4, 6);
        spare(g, 2, 6);
        lack(g, 0, 4);
        lack(g, 1, 4);
        lack(g, 3, 4);
        for (int to : new int[] {0, 1, 3}) {
            g.setRoute(2, to, 3);
            g.setRoute(4, to, 3);
        }
        int[] fromTwo = {4, 2, 0, 0};
        int[] fromFour = {0, 2, 0, 4};
        for (int to = 0; to < 4; to++) {
            Check.same("40 the most from the first to the first", g.planned(0, 2, to), fromTwo[to]);
            Check.same("40 what is left from the other one", g.planned(0, 4, to), fromFour[to]);
        }
    }

    private static void balanceSendsThePlan() {
        Granary g = sites(4);
        spare(g, 1, 10);
        spare(g, 0, 10);
        lack(g, 2, 12);
        lack(g, 3, 5);
        g.setRoute(0, 2, 4);
        g.setRoute(1, 2, 5);
        g.setRoute(1, 3, 6);
        Check.same("13 balance", g.balance(0), 17);
        int[] to = {2, 2, 3};
        int[] units = {10, 2, 5};
        Check.same("13 transports", g.transports(), 3);
        for (int transport = 0; transport < 3; transport++) {
            Check.same("13 by the first, then by the second site", g.ofTransport(transport, 1), to[transport]);
            Check.same("13 units", g.ofTransport(transport, 2), units[transport]);
        }
        Check.same("13 what it lacked is under way", g.lacks(0, 2) + g.lacks(0, 3), 0);
        Check.same("13 balanced", g.balance(0), 0);
    }

    /** The best plan of the document's words: all plans are made, one behind the other, and compared. */
    private static final class AllPlans {
        final int sites;
        final int[][] route;
        final int[] spare;
        final int[] lack;
        final int[] units;
        int[] best;
        int bestUnits = -1;
        int bestDays;

        AllPlans(int sites, int[][] route, int[] spare, int[] lack) {
            this.sites = sites;
            this.route = route;
            this.spare = spare;
            this.lack = lack;
            this.units = new int[sites * sites];
        }

        void tryFrom(int at) {
            if (at == units.length) {
                compare();
                return;
            }
            int from = at / sites;
            int to = at % sites;
            int most = route[from][to] == 0 ? 0 : Math.min(spare[from], lack[to]);
            for (int u = 0; u <= most; u++) {
                units[at] = u;
                spare[from] -= u;
                lack[to] -= u;
                tryFrom(at + 1);
                spare[from] += u;
                lack[to] += u;
            }
            units[at] = 0;
        }

        private void compare() {
            int sum = 0;
            int days = 0;
            for (int at = 0; at < units.length; at++) {
                sum += units[at];
                days += units[at] * route[at / sites][at % sites];
            }
            if (sum > bestUnits || sum == bestUnits && (days < bestDays || days == bestDays && aheadOfBest())) {
                best = units.clone();
                bestUnits = sum;
                bestDays = days;
            }
        }

        private boolean aheadOfBest() {
            for (int at = 0; at < units.length; at++) {
                if (units[at] != best[at]) {
                    return units[at] > best[at];
                }
            }
            return false;
        }
    }

    private static void likeAllPlansTried(Random random) {
        int sites = 2 + random.nextInt(4);
        Granary g = sites(sites);
        int[][] route = new int[sites][sites];
        int[] spare = new int[sites];
        int[] lack = new int[sites];
        int days = 1 + random.nextInt(3);
        for (int site = 0; site < sites; site++) {
            int units = random.nextInt(5);
            if (units > 0 && random.nextBoolean()) {
                spare(g, site, units);
                spare[site] = units;
            } else {
                lack(g, site, units);
                lack[site] = units;
            }
            for (int to = 0; to < sites; to++) {
                if (to != site && random.nextInt(5) > 0) {
                    route[site][to] = 1 + random.nextInt(days);
                    g.setRoute(site, to, route[site][to]);
                }
            }
        }
        AllPlans all = new AllPlans(sites, route, spare, lack);
        all.tryFrom(0);
        for (int at = 0; at < sites * sites; at++) {
            Check.same("40 planned, of all plans", g.planned(0, at / sites, at % sites), all.best[at]);
        }
    }

    private static void likeTheModel(Random random) {
        int sites = 3 + random.nextInt(3);
        Granary g = sites(sites);
        Model m = new Model();
        m.addItem(50, 1, 1);
        int days = 1 + random.nextInt(9);
        for (int site = 0; site < sites; site++) {
            m.addSite(9999);
        }
        for (int site = 0; site < sites; site++) {
            int units = 1 + random.nextInt(999);
            if (random.nextBoolean()) {
                spare(g, site, units);
                m.receive(0, site, units, 60);
                m.setPolicy(0, site, 0, 0, -1, 1);
            } else {
                lack(g, site, units);
                m.setPolicy(0, site, units, 999, -1, 1);
            }
            for (int to = 0; to < sites; to++) {
                if (to != site && random.nextInt(5) > 0) {
                    int way = 1 + random.nextInt(days);
                    g.setRoute(site, to, way);
                    m.setRoute(site, to, way);
                }
            }
        }
        int[][] plan = m.plan(0);
        for (int at = 0; at < sites * sites; at++) {
            Check.same("40 planned, like the model", g.planned(0, at / sites, at % sites), plan[at / sites][at % sites]);
        }
    }
}
