import java.util.Random;

/** Long runs of calls, drawn by fixed seeds: each answer, each exception and the digest must be those of Model. */
public final class RandomRunsTest {
    private interface Asked {
        Object answer();
    }

    /** An object is used for 512 calls at most; the last ones of them are left for a question that makes two. */
    private static final int CALLS = 508;

    private final Random random;
    private final int seed;
    private final int flavour;
    private final Granary granary = new Granary();
    private final Model model = new Model();
    private final StringBuilder told = new StringBuilder();
    private int calls;

    private RandomRunsTest(int seed) {
        this.seed = seed;
        this.random = new Random(seed);
        this.flavour = seed % 4;
    }

    public static void main(String[] args) {
        int runs = args.length > 0 ? Integer.parseInt(args[0]) : 60;
        int firstSeed = args.length > 1 ? Integer.parseInt(args[1]) : 0;
        for (int seed = firstSeed; seed < firstSeed + runs; seed++) {
            new RandomRunsTest(seed).run();
        }
        Check.end();
    }

    private static Object outcome(Asked call) {
        try {
            return call.answer();
        } catch (IndexOutOfBoundsException | IllegalArgumentException | IllegalStateException e) {
            return e.getClass().getSimpleName();
        }
    }

    private void compare(String name, int[] a, Asked got, Asked due) {
        calls++;
        told.setLength(0);
        told.append("seed ").append(seed).append(": ").append(name).append(java.util.Arrays.toString(a));
        Object answer = outcome(got);
        Object want = outcome(due);
        if (!answer.equals(want)) {
            Check.report(told + " answered " + answer + ", due is " + want);
        }
    }

    private void run() {
        setUp();
        int wrongs = Check.wrongs();
        for (int turn = 0; calls < CALLS && Check.wrongs() == wrongs; turn++) {
            if (random.nextInt(100) < 55) {
                change();
            } else {
                ask(random.nextInt(28));
            }
            if (turn % 25 == 0) {
                compareDigests(turn);
            }
        }
        compareDigests(CALLS);
    }

    private void compareDigests(int turn) {
        compare("digest behind the turn", new int[] {turn}, granary::digest, model::digest);
    }

    /** A number from least to most; now and then one of the edges, or one beyond them. */
    private int pick(int least, int most) {
        int dice = random.nextInt(200);
        if (dice == 0) {
            return least - 1;
        }
        if (dice == 1) {
            return most + 1;
        }
        if (dice == 2) {
            return random.nextBoolean() ? Integer.MIN_VALUE : Integer.MAX_VALUE;
        }
        if (dice < 16) {
            return dice % 2 == 0 ? least : most;
        }
        return most < least ? least : least + random.nextInt(most - least + 1);
    }

    private int few(int least, int usual, int most) {
        return random.nextInt(8) == 0 ? pick(least, most) : pick(least, usual);
    }

    private int item() {
        return pick(0, model.items.size() - 1);
    }

    private int site() {
        return pick(0, model.rooms.size() - 1);
    }

    private void setUp() {
        int items = 1 + random.nextInt(4);
        int sites = 1 + random.nextInt(5);
        for (int i = 0; i < items; i++) {
            addItem();
        }
        for (int s = 0; s < sites; s++) {
            addSite();
        }
        for (int r = 0; r < sites * 3; r++) {
            setRoute();
        }
        for (int p = 0; p < items * sites; p++) {
            setPolicy();
        }
    }

    private void change() {
        int[][] weights = {
            {1, 1, 4, 8, 30, 20, 6, 3, 8, 16, 6, 4},
            {1, 1, 4, 8, 14, 14, 6, 3, 6, 50, 6, 4},
            {1, 1, 2, 4, 90, 10, 4, 2, 4, 8, 12, 8},
            {1, 1, 10, 20, 30, 8, 2, 1, 2, 6, 4, 20}};
        int[] w = weights[flavour];
        int sum = 0;
        for (int x : w) {
            sum += x;
        }
        int dice = random.nextInt(sum);
        int kind = 0;
        while (dice >= w[kind]) {
            dice -= w[kind];
            kind++;
        }
        switch (kind) {
            case 0: addItem(); break;
            case 1: addSite(); break;
            case 2: setRoute(); break;
            case 3: setPolicy(); break;
            case 4: receive(); break;
            case 5: order(); break;
            case 6: cancel(); break;
            case 7: compare("reserveAnew", new int[0], granary::reserveAnew, model::reserveAnew); break;
            case 8: ship(); break;
            case 9: pass(); break;
            case 10: send(); break;
            default: balance(); break;
        }
    }

    private void addItem() {
        int[] a = {random.nextBoolean() ? pick(1, 12) : pick(1, 99), pick(1, 99), pick(1, 20)};
        compare("addItem", a, () -> granary.addItem(a[0], a[1], a[2]), () -> model.addItem(a[0], a[1], a[2]));
    }

    private void addSite() {
        int[] a = {random.nextInt(3) == 0 ? pick(1, 100) : pick(1, 9999)};
        compare("addSite", a, () -> granary.addSite(a[0]), () -> model.addSite(a[0]));
    }

    private void setRoute() {
        int[] a = {site(), site(), few(1, 3, 9)};
        if (random.nextInt(12) == 0) {
            a[2] = 0;
        }
        compare("setRoute", a, () -> granary.setRoute(a[0], a[1], a[2]), () -> model.setRoute(a[0], a[1], a[2]));
    }

    private void setPolicy() {
        int point = flavour == 3 ? few(0, 60, 999) : few(0, 20, 999);
        int[] a = {item(), site(), point, pick(point, Math.max(point, Math.min(999, point + 30))),
            random.nextInt(3) == 0 ? pick(0, 4) : -1, pick(1, 20)};
        compare("setPolicy", a, () -> granary.setPolicy(a[0], a[1], a[2], a[3], a[4], a[5]),
                () -> model.setPolicy(a[0], a[1], a[2], a[3], a[4], a[5]));
    }

    private void receive() {
        int[] a = {item(), site(), flavour == 2 ? few(1, 9, 99) : few(1, 60, 999), few(0, 12, 99)};
        compare("receive", a, () -> granary.receive(a[0], a[1], a[2], a[3]),
                () -> model.receive(a[0], a[1], a[2], a[3]));
    }

    private void order() {
        int[] a = {item(), site(), few(1, 20, 99), few(0, 6, 60), pick(0, 9), few(0, 4, 20)};
        compare("order", a, () -> granary.order(a[0], a[1], a[2], a[3], a[4], a[5]),
                () -> model.order(a[0], a[1], a[2], a[3], a[4], a[5]));
    }

    private int anyOrder() {
        return pick(0, model.orders.size() - 1);
    }

    private int anyLot() {
        return pick(0, model.lots.size() - 1);
    }

    private void cancel() {
        int[] a = {anyOrder()};
        compare("cancel", a, () -> granary.cancel(a[0]), () -> model.cancel(a[0]));
    }

    private void ship() {
        int[] a = {anyOrder()};
        compare("ship", a, () -> granary.ship(a[0]), () -> model.ship(a[0]));
    }

    private void pass() {
        int[] a = {flavour == 1 ? pick(1, 30) : few(1, 3, 30)};
        compare("pass", a, () -> granary.pass(a[0]), () -> model.pass(a[0]));
    }

    private void send() {
        int[] a = {item(), site(), site(), few(1, 40, 999)};
        compare("send", a, () -> granary.send(a[0], a[1], a[2], a[3]), () -> model.send(a[0], a[1], a[2], a[3]));
    }

    private void balance() {
        int[] a = {item()};
        compare("balance", a, () -> granary.balance(a[0]), () -> model.balance(a[0]));
    }

    private void ask(int kind) {
        int[] a = {item(), site(), site()};
        int[] d = {pick(1, 30), pick(0, 99), pick(1, 60), pick(0, 5)};
        int[] n = {anyOrder(), anyLot(), pick(0, model.transports.size() - 1), pick(1, Math.max(1, d[2]))};
        switch (kind) {
            case 0: compare("day", a, granary::day, () -> model.day); break;
            case 1: compare("items", a, granary::items, () -> model.items.size()); break;
            case 2: compare("sites", a, granary::sites, () -> model.rooms.size()); break;
            case 3: compare("lots", a, granary::lots, () -> model.lots.size()); break;
            case 4: compare("orders", a, granary::orders, () -> model.orders.size()); break;
            case 5: compare("transports", a, granary::transports, () -> model.transports.size()); break;
            case 6: compare("ofLot", n, () -> granary.ofLot(n[1], d[3]), () -> model.ofLot(n[1], d[3])); break;
            case 7: compare("ofOrder", n, () -> granary.ofOrder(n[0], d[3]), () -> model.ofOrder(n[0], d[3])); break;
            case 8: compare("reserved", n, () -> granary.reserved(n[0], n[1]), () -> model.reserved(n[0], n[1])); break;
            case 9:
                compare("ofTransport", n, () -> granary.ofTransport(n[2], d[3]), () -> model.ofTransport(n[2], d[3]));
                break;
            case 10: compare("route", a, () -> granary.route(a[1], a[2]), () -> model.route(a[1], a[2])); break;
            case 11: compare("hasPolicy", a, () -> granary.hasPolicy(a[0], a[1]), () -> model.hasPolicy(a[0], a[1])); break;
            case 12: compare("onHand", a, () -> granary.onHand(a[0], a[1]), () -> model.onHand(a[0], a[1])); break;
            case 13: compare("free", a, () -> granary.free(a[0], a[1]), () -> model.free(a[0], a[1])); break;
            case 14: compare("underWay", a, () -> granary.underWay(a[0], a[1]), () -> model.underWay(a[0], a[1])); break;
            case 15: compare("position", a, () -> granary.position(a[0], a[1]), () -> model.position(a[0], a[1])); break;
            case 16: compare("roomLeft", a, () -> granary.roomLeft(a[1]), () -> model.roomLeft(a[1])); break;
            default: askMore(kind, a, d, n); break;
        }
    }

    private void askMore(int kind, int[] a, int[] d, int[] n) {
        int units = pick(1, 99);
        switch (kind) {
            case 17:
                compare("expiring", a, () -> granary.expiring(a[0], a[1], d[1]), () -> model.expiring(a[0], a[1], d[1]));
                break;
            case 18:
                compare("couldTake", a, () -> granary.couldTake(a[0], a[1], units),
                        () -> model.couldTake(a[0], a[1], units));
                break;
            case 19: compare("account", d, () -> granary.account(d[3]), () -> model.account(d[3])); break;
            case 20: compare("rate", a, () -> granary.rate(a[0], a[1], d[2]), () -> model.rate(a[0], a[1], d[2])); break;
            case 21:
                compare("pointFor", a, () -> granary.pointFor(a[0], a[1], d[2], n[3]),
                        () -> model.pointFor(a[0], a[1], d[2], n[3]));
                break;
            case 22: compare("classOf", a, () -> granary.classOf(a[0]), () -> model.classOf(a[0])); break;
            case 23: compare("punctuality", a, granary::punctuality, model::punctuality); break;
            case 24:
                compare("lacks", a, () -> granary.lacks(a[0], a[1]), () -> model.lacks(a[0], a[1]));
                compare("spares", a, () -> granary.spares(a[0], a[1]), () -> model.spares(a[0], a[1]));
                break;
            case 25:
                compare("planned", a, () -> granary.planned(a[0], a[1], a[2]), () -> model.planned(a[0], a[1], a[2]));
                break;
            case 26:
                compare("onHandIn", a, () -> granary.onHandIn(a[0], a[1], d[0]),
                        () -> model.onHandIn(a[0], a[1], d[0]));
                compare("firstShort", d, () -> granary.firstShort(d[0]), () -> model.firstShort(d[0]));
                break;
            default:
                compare("shippedOn", n, () -> granary.shippedOn(n[0], d[0]), () -> model.shippedOn(n[0], d[0]));
                break;
        }
    }
}
