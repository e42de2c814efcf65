/** Promises 1 to 6: a new object, items, sites, routes, policies, lots that are received. */
public final class WhatThereIsTest {
    public static void main(String[] args) {
        newObject();
        addItem();
        addSite();
        setRoute();
        setPolicy();
        policyOfARouteThatGoes();
        receive();
        receiveUpToTheLimits();
        Check.end();
    }

    private static void newObject() {
        Granary g = new Granary();
        Check.same("1 day", g.day(), 0);
        Check.same("1 items", g.items(), 0);
        Check.same("1 sites", g.sites(), 0);
        Check.same("1 lots", g.lots(), 0);
        Check.same("1 orders", g.orders(), 0);
        Check.same("1 transports", g.transports(), 0);
        for (int what = 0; what <= 4; what++) {
            Check.same("1 account " + what, g.account(what), 0);
        }
        Check.same("1 pass", g.pass(30), 30);
    }

    private static void addItem() {
        Granary g = new Granary();
        int[][] bad = {{0, 1, 1}, {100, 1, 1}, {-5, 1, 1}, {1, 0, 1}, {1, 100, 1}, {1, 1, 0}, {1, 1, 21},
            {Integer.MIN_VALUE, 1, 1}, {1, Integer.MAX_VALUE, 1}};
        for (int[] b : bad) {
            Check.noArgument("2 addItem", g, () -> g.addItem(b[0], b[1], b[2]));
        }
        for (int item = 0; item < 6; item++) {
            Check.same("2 addItem", item % 2 == 0 ? g.addItem(1, 1, 1) : g.addItem(99, 99, 20), item);
        }
        Check.noState("2 a seventh item", g, () -> g.addItem(1, 1, 1));
        Check.noArgument("2 a wrong seventh item", g, () -> g.addItem(0, 1, 1));
        Check.same("2 items", g.items(), 6);
    }

    private static void addSite() {
        Granary g = new Granary();
        for (int room : new int[] {0, -1, 10000, Integer.MAX_VALUE, Integer.MIN_VALUE}) {
            Check.noArgument("3 addSite", g, () -> g.addSite(room));
        }
        for (int site = 0; site < 5; site++) {
            Check.same("3 addSite", g.addSite(site == 0 ? 1 : 9999), site);
        }
        Check.same("3 roomLeft", g.roomLeft(0), 1);
        Check.same("3 roomLeft", g.roomLeft(4), 9999);
        Check.noState("3 a sixth site", g, () -> g.addSite(1));
        Check.noArgument("3 a wrong sixth site", g, () -> g.addSite(0));
    }

    private static void setRoute() {
        Granary g = new Granary();
        Check.noIndex("4 without sites", g, () -> g.setRoute(0, 0, 1));
        g.addSite(10);
        g.addSite(10);
        Check.noIndex("4 from", g, () -> g.setRoute(-1, 0, 1));
        Check.noIndex("4 from", g, () -> g.setRoute(2, 0, 1));
        Check.noIndex("4 to", g, () -> g.setRoute(0, -1, 1));
        Check.noIndex("4 to, and days", g, () -> g.setRoute(0, 2, 10));
        Check.noArgument("4 both the same", g, () -> g.setRoute(1, 1, 1));
        Check.noArgument("4 days", g, () -> g.setRoute(0, 1, -1));
        Check.noArgument("4 days", g, () -> g.setRoute(0, 1, 10));
        Check.same("4 setRoute", g.setRoute(0, 1, 9), 0);
        Check.same("4 setRoute", g.setRoute(0, 1, 1), 9);
        Check.same("4 the other way", g.route(1, 0), 0);
        Check.same("4 setRoute", g.setRoute(1, 0, 3), 0);
        Check.same("4 setRoute", g.setRoute(0, 1, 0), 1);
        Check.same("4 setRoute", g.setRoute(0, 1, 0), 0);
        Check.same("4 the other way", g.route(1, 0), 3);
    }

    private static Granary twoItemsThreeSites() {
        Granary g = new Granary();
        g.addItem(10, 5, 1);
        g.addItem(10, 7, 4);
        g.addSite(9999);
        g.addSite(100);
        g.addSite(100);
        return g;
    }

    private static void setPolicy() {
        Granary g = twoItemsThreeSites();
        g.setRoute(0, 1, 2);
        Check.noIndex("5 item", g, () -> g.setPolicy(-1, 0, 0, 0, -1, 1));
        Check.noIndex("5 item", g, () -> g.setPolicy(2, 0, 0, 0, -1, 1));
        Check.noIndex("5 site", g, () -> g.setPolicy(0, -1, 0, 0, -1, 1));
        Check.noIndex("5 site, and point", g, () -> g.setPolicy(0, 3, -1, 0, -1, 1));
        int[][] bad = {{-1, 0, -1, 1}, {1000, 1000, -1, 1}, {5, 4, -1, 1}, {5, 1000, -1, 1}, {0, 0, -1, 0},
            {0, 0, -1, 21}, {0, 0, -2, 1}, {0, 0, 1, 1}, {0, 0, 2, 1}, {0, 0, 3, 1}, {0, 0, Integer.MAX_VALUE, 1}};
        for (int[] b : bad) {
            Check.noArgument("5 setPolicy", g, () -> g.setPolicy(0, 1, b[0], b[1], b[2], b[3]));
        }
        Check.noArgument("5 the route leads the other way", g, () -> g.setPolicy(0, 0, 0, 0, 1, 1));
        Check.same("5 setPolicy", g.setPolicy(0, 1, 999, 999, -1, 20), false);
        Check.same("5 setPolicy", g.setPolicy(0, 1, 0, 0, -1, 1), true);
        Check.same("5 another item", g.setPolicy(1, 1, 2, 9, 0, -77), false);
        Check.same("5 lacks", g.lacks(1, 1), 2);
        Check.same("5 setPolicy", g.setPolicy(1, 1, 4, 9, -1, 20), true);
        Check.same("5 lacks", g.lacks(1, 1), 4);
        Check.same("5 another site", g.hasPolicy(1, 0), false);
        g.pass(1);
        Check.same("5 its new lead", g.ofTransport(0, 3), 21);
        Check.same("5 its new top, in packs", g.ofTransport(0, 2), 12);
        Check.same("5 one review alone orders", g.transports(), 1);
    }

    private static void policyOfARouteThatGoes() {
        Granary g = twoItemsThreeSites();
        g.setRoute(0, 1, 2);
        g.setRoute(0, 2, 2);
        g.setRoute(2, 1, 2);
        g.setPolicy(0, 1, 1, 2, 0, 0);
        g.setPolicy(1, 1, 1, 2, 2, 0);
        g.setPolicy(0, 2, 1, 2, 0, 0);
        g.setPolicy(1, 2, 1, 2, -1, 1);
        g.setRoute(0, 1, 5);
        Check.same("4 a route that changes keeps its policies", g.hasPolicy(0, 1), true);
        g.setRoute(0, 1, 0);
        Check.same("4 the policy filled by it", g.hasPolicy(0, 1), false);
        Check.same("4 filled from another site", g.hasPolicy(1, 1), true);
        Check.same("4 at another site", g.hasPolicy(0, 2), true);
        g.setRoute(0, 2, 0);
        Check.same("4 the policy filled by it", g.hasPolicy(0, 2), false);
        Check.same("4 filled from outside", g.hasPolicy(1, 2), true);
        Check.same("5 none is in its place", g.setPolicy(0, 2, 1, 2, -1, 1), false);
    }

    private static void receive() {
        Granary g = twoItemsThreeSites();
        Check.noIndex("6 item", g, () -> g.receive(2, 0, 1, 1));
        Check.noIndex("6 item", g, () -> g.receive(-1, 0, 1, 1));
        Check.noIndex("6 site", g, () -> g.receive(0, 3, 1, 1));
        Check.noIndex("6 site, and units", g, () -> g.receive(0, -1, 0, 1));
        Check.noArgument("6 units", g, () -> g.receive(0, 0, 0, 1));
        Check.noArgument("6 units", g, () -> g.receive(0, 0, 1000, 1));
        Check.noArgument("6 days", g, () -> g.receive(0, 0, 1, -1));
        Check.noArgument("6 days", g, () -> g.receive(0, 0, 1, 100));
        Check.noArgument("6 days, and room", g, () -> g.receive(0, 1, 101, 100));
        Check.noState("6 room", g, () -> g.receive(0, 1, 101, 1));
        Check.same("6 receive", g.receive(0, 1, 60, 0), 0);
        Check.noState("6 room that another item takes", g, () -> g.receive(1, 1, 41, 1));
        Check.same("6 receive", g.receive(1, 1, 40, 99), 1);
        Check.same("6 room of another site", g.receive(1, 0, 999, 1), 2);
        Check.same("6 spent", g.account(3), 60 * 5 + 1039 * 7);
        g.order(0, 2, 5, 3, 0, 0);
        g.pass(1);
        Check.same("6 receive", g.receive(0, 2, 9, 6), 3);
        Check.same("6 last day", g.ofLot(3, 4), 7);
        Check.same("6 nothing is reserved by that", g.ofOrder(0, 2), 0);
    }

    private static void receiveUpToTheLimits() {
        Granary g = twoItemsThreeSites();
        for (int lot = 0; lot < 200; lot++) {
            Check.same("6 receive", g.receive(0, 0, 1, 5), lot);
        }
        Check.noState("6 the 201st lot", g, () -> g.receive(0, 0, 1, 5));
        Check.noArgument("6 a wrong 201st lot", g, () -> g.receive(0, 0, 0, 5));
        g.pass(6);
        Check.same("6 they are gone", g.onHand(0, 0), 0);
        Check.noState("6 empty lots count as well", g, () -> g.receive(0, 0, 1, 5));
        Check.same("6 lots", g.lots(), 200);
    }
}
