import java.math.BigInteger;
import java.util.ArrayList;
import java.util.Collections;
import java.util.Comparator;
import java.util.List;

/**
 * The document once more, written another way, for RandomRunsTest: each single unit of a lot knows the order that
 * it is reserved for, nothing is counted ahead, and the plan is found with exact costs of any size.
 */
final class Model {
    static final class Lot {
        int item;
        int site;
        int last;
        /** One entry a unit: the order for which it is reserved, or -1. */
        final List<Integer> owners = new ArrayList<>();
    }

    static final class Order {
        int number;
        int item;
        int site;
        int units;
        int due;
        int rank;
        int keep;
        int state;
        int shipped = -1;
    }

    static final class Transport {
        int item;
        int to;
        int units;
        int arrival;
        int last;
        boolean moving = true;
    }

    static final class Policy {
        int point;
        int top;
        int source;
        int lead;
    }

    int day;
    final List<int[]> items = new ArrayList<>();
    final List<Integer> rooms = new ArrayList<>();
    final int[][] routes = new int[5][5];
    final Policy[][] policies = new Policy[6][5];
    final List<Lot> lots = new ArrayList<>();
    final List<Order> orders = new ArrayList<>();
    final List<Transport> transports = new ArrayList<>();
    final int[] accounts = new int[5];
    final int[] earned = new int[6];

    Model copy() {
        Model c = new Model();
        c.day = day;
        c.items.addAll(items);
        c.rooms.addAll(rooms);
        for (int i = 0; i < 5; i++) {
            c.routes[i] = routes[i].clone();
        }
        for (int i = 0; i < 6; i++) {
            c.policies[i] = policies[i].clone();
        }
        for (Lot l : lots) {
            Lot n = new Lot();
            n.item = l.item;
            n.site = l.site;
            n.last = l.last;
            n.owners.addAll(l.owners);
            c.lots.add(n);
        }
        for (Order o : orders) {
            Order n = new Order();
            n.number = o.number;
            n.item = o.item;
            n.site = o.site;
            n.units = o.units;
            n.due = o.due;
            n.rank = o.rank;
            n.keep = o.keep;
            n.state = o.state;
            n.shipped = o.shipped;
            c.orders.add(n);
        }
        for (Transport t : transports) {
            Transport n = new Transport();
            n.item = t.item;
            n.to = t.to;
            n.units = t.units;
            n.arrival = t.arrival;
            n.last = t.last;
            n.moving = t.moving;
            c.transports.add(n);
        }
        System.arraycopy(accounts, 0, c.accounts, 0, 5);
        System.arraycopy(earned, 0, c.earned, 0, 6);
        return c;
    }

    private void item(int item) {
        if (item < 0 || item >= items.size()) {
            throw new IndexOutOfBoundsException();
        }
    }

    private void site(int site) {
        if (site < 0 || site >= rooms.size()) {
            throw new IndexOutOfBoundsException();
        }
    }

    private static void range(int x, int least, int most) {
        if (x < least || x > most) {
            throw new IllegalArgumentException();
        }
    }

    private static void state(boolean fine) {
        if (!fine) {
            throw new IllegalStateException();
        }
    }

    int addItem(int life, int price, int pack) {
        range(life, 1, 99);
        range(price, 1, 99);
        range(pack, 1, 20);
        state(items.size() < 6);
        items.add(new int[] {life, price, pack});
        return items.size() - 1;
    }

    int addSite(int room) {
        range(room, 1, 9999);
        state(rooms.size() < 5);
        rooms.add(room);
        return rooms.size() - 1;
    }

    int setRoute(int from, int to, int days) {
        site(from);
        site(to);
        range(days, 0, 9);
        if (from == to) {
            throw new IllegalArgumentException();
        }
        int old = routes[from][to];
        routes[from][to] = days;
        for (int i = 0; i < 6; i++) {
            if (days == 0 && policies[i][to] != null && policies[i][to].source == from) {
                policies[i][to] = null;
            }
        }
        return old;
    }

    boolean setPolicy(int item, int site, int point, int top, int source, int lead) {
        item(item);
        site(site);
        range(point, 0, 999);
        range(top, point, 999);
        range(source, -1, rooms.size() - 1);
        if (source == -1) {
            range(lead, 1, 20);
        } else {
            range(routes[source][site], 1, 9);
        }
        Policy p = new Policy();
        p.point = point;
        p.top = top;
        p.source = source;
        p.lead = lead;
        boolean old = policies[item][site] != null;
        policies[item][site] = p;
        return old;
    }

    private int newLot(int item, int site, int units, int last) {
        Lot l = new Lot();
        l.item = item;
        l.site = site;
        l.last = last;
        l.owners.addAll(Collections.nCopies(units, -1));
        lots.add(l);
        return lots.size() - 1;
    }

    int receive(int item, int site, int units, int days) {
        item(item);
        site(site);
        range(units, 1, 999);
        range(days, 0, 99);
        state(lots.size() < 200 && roomLeft(site) >= units);
        accounts[3] += units * items.get(item)[1];
        return newLot(item, site, units, day + days);
    }

    int order(int item, int site, int units, int due, int rank, int keep) {
        item(item);
        site(site);
        range(units, 1, 99);
        range(due, 0, 60);
        range(rank, 0, 9);
        range(keep, 0, 20);
        state(orders.size() < 60);
        Order o = new Order();
        o.number = orders.size();
        o.item = item;
        o.site = site;
        o.units = units;
        o.due = day + due;
        o.rank = rank;
        o.keep = keep;
        orders.add(o);
        reserve(o);
        return o.number;
    }

    private int inLot(Lot l, int owner) {
        return Collections.frequency(l.owners, owner);
    }

    private int inAll(int owner) {
        int sum = 0;
        for (Lot l : lots) {
            sum += inLot(l, owner);
        }
        return sum;
    }

    /** Lots from the earliest last day on; the sort keeps the numbers' order among equals. */
    private List<Lot> byLastDay() {
        List<Lot> sorted = new ArrayList<>(lots);
        sorted.sort(Comparator.comparingInt(l -> l.last));
        return sorted;
    }

    private void reserve(Order o) {
        int lacking = o.units - inAll(o.number);
        for (Lot l : byLastDay()) {
            if (l.item == o.item && l.site == o.site && l.last >= Math.max(o.due, day) + o.keep) {
                for (int u = 0; u < l.owners.size() && lacking > 0; u++) {
                    if (l.owners.get(u) == -1) {
                        l.owners.set(u, o.number);
                        lacking--;
                    }
                }
            }
        }
    }

    private void reserveAll() {
        List<Order> open = new ArrayList<>();
        for (Order o : orders) {
            if (o.state == 0) {
                open.add(o);
            }
        }
        open.sort(Comparator.<Order>comparingInt(o -> o.rank).thenComparingInt(o -> o.due)
                .thenComparingInt(o -> o.number));
        for (Order o : open) {
            reserve(o);
        }
    }

    private int unreserve(int order) {
        int sum = 0;
        for (Lot l : lots) {
            sum += inLot(l, order);
            l.owners.replaceAll(x -> x == order ? -1 : x);
        }
        return sum;
    }

    private Order openOrder(int order) {
        if (order < 0 || order >= orders.size()) {
            throw new IndexOutOfBoundsException();
        }
        state(orders.get(order).state == 0);
        return orders.get(order);
    }

    int cancel(int order) {
        openOrder(order).state = 2;
        return unreserve(order);
    }

    int reserveAnew() {
        for (Order o : orders) {
            unreserve(o.number);
        }
        reserveAll();
        int sum = 0;
        for (Order o : orders) {
            sum += inAll(o.number);
        }
        return sum;
    }

    int ship(int order) {
        Order o = openOrder(order);
        state(inAll(order) == o.units);
        doShip(o);
        return o.units;
    }

    private void doShip(Order o) {
        for (Lot l : lots) {
            l.owners.removeIf(x -> x == o.number);
        }
        o.state = 1;
        o.shipped = day;
        accounts[4] += 2 * o.units * items.get(o.item)[1];
        earned[o.item] += 2 * o.units * items.get(o.item)[1];
    }

    int pass(int days) {
        range(days, 1, 30);
        for (int i = 0; i < days; i++) {
            oneDay();
        }
        return day;
    }

    private void oneDay() {
        day++;
        for (Lot l : lots) {
            if (l.last < day) {
                accounts[1] += l.owners.size() * items.get(l.item)[1];
                l.owners.clear();
            }
        }
        for (Transport t : transports) {
            if (t.moving && t.arrival == day) {
                t.moving = false;
                int in = t.last < day || lots.size() == 200 ? 0 : Math.min(t.units, roomLeft(t.to));
                if (in > 0) {
                    newLot(t.item, t.to, in, t.last);
                }
                accounts[1] += (t.units - in) * items.get(t.item)[1];
            }
        }
        reserveAll();
        for (Order o : orders) {
            if (o.state == 0 && o.due <= day) {
                int lacking = o.units - inAll(o.number);
                if (lacking == 0) {
                    doShip(o);
                }
                accounts[2] += lacking;
            }
        }
        for (int i = 0; i < items.size(); i++) {
            for (int s = 0; s < rooms.size(); s++) {
                if (policies[i][s] != null) {
                    review(i, s, policies[i][s]);
                }
            }
        }
        for (Lot l : lots) {
            accounts[0] += l.owners.size() * items.get(l.item)[1];
        }
    }

    private void review(int item, int site, Policy p) {
        int position = position(item, site);
        if (position > p.point || position >= p.top) {
            return;
        }
        int wanted = p.top - position;
        while (wanted % items.get(item)[2] != 0) {
            wanted++;
        }
        if (p.source >= 0) {
            doSend(item, p.source, site, wanted);
        } else if (transports.size() < 90) {
            newTransport(item, site, wanted, day + p.lead, day + p.lead + items.get(item)[0]);
            accounts[3] += wanted * items.get(item)[1];
        }
    }

    private void newTransport(int item, int to, int units, int arrival, int last) {
        Transport t = new Transport();
        t.item = item;
        t.to = to;
        t.units = units;
        t.arrival = arrival;
        t.last = last;
        transports.add(t);
    }

    private int doSend(int item, int from, int to, int units) {
        int arrival = day + routes[from][to];
        int sent = 0;
        for (Lot l : byLastDay()) {
            int part = Math.min(inLot(l, -1), units - sent);
            if (l.item == item && l.site == from && l.last > arrival && part > 0 && transports.size() < 90) {
                newTransport(item, to, part, arrival, l.last);
                for (int u = 0; u < part; u++) {
                    l.owners.remove(Integer.valueOf(-1));
                }
                sent += part;
            }
        }
        return sent;
    }

    int send(int item, int from, int to, int units) {
        item(item);
        site(from);
        site(to);
        range(routes[from][to], 1, 9);
        range(units, 1, 999);
        return doSend(item, from, to, units);
    }

    int balance(int item) {
        item(item);
        int[][] plan = plan(item);
        int sent = 0;
        for (int f = 0; f < rooms.size(); f++) {
            for (int t = 0; t < rooms.size(); t++) {
                if (plan[f][t] > 0) {
                    sent += doSend(item, f, t, plan[f][t]);
                }
            }
        }
        return sent;
    }

    int ofLot(int lot, int what) {
        if (lot < 0 || lot >= lots.size()) {
            throw new IndexOutOfBoundsException();
        }
        range(what, 0, 4);
        Lot l = lots.get(lot);
        return new int[] {l.item, l.site, l.owners.size(), l.owners.size() - inLot(l, -1), l.last}[what];
    }

    int ofOrder(int order, int what) {
        if (order < 0 || order >= orders.size()) {
            throw new IndexOutOfBoundsException();
        }
        range(what, 0, 4);
        Order o = orders.get(order);
        return new int[] {o.state, o.units, inAll(order), o.due, o.shipped}[what];
    }

    int reserved(int order, int lot) {
        if (order < 0 || order >= orders.size() || lot < 0 || lot >= lots.size()) {
            throw new IndexOutOfBoundsException();
        }
        return inLot(lots.get(lot), order);
    }

    int ofTransport(int transport, int what) {
        if (transport < 0 || transport >= transports.size()) {
            throw new IndexOutOfBoundsException();
        }
        range(what, 0, 5);
        Transport t = transports.get(transport);
        return new int[] {t.item, t.to, t.units, t.arrival, t.last, t.moving ? 1 : 0}[what];
    }

    int route(int from, int to) {
        site(from);
        site(to);
        return routes[from][to];
    }

    boolean hasPolicy(int item, int site) {
        item(item);
        site(site);
        return policies[item][site] != null;
    }

    int onHand(int item, int site) {
        item(item);
        site(site);
        int sum = 0;
        for (Lot l : lots) {
            sum += l.item == item && l.site == site ? l.owners.size() : 0;
        }
        return sum;
    }

    int free(int item, int site) {
        item(item);
        site(site);
        int sum = 0;
        for (Lot l : lots) {
            sum += l.item == item && l.site == site ? inLot(l, -1) : 0;
        }
        return sum;
    }

    int underWay(int item, int site) {
        item(item);
        site(site);
        int sum = 0;
        for (Transport t : transports) {
            sum += t.moving && t.item == item && t.to == site ? t.units : 0;
        }
        return sum;
    }

    int position(int item, int site) {
        int sum = onHand(item, site) + underWay(item, site);
        for (Order o : orders) {
            sum -= o.state == 0 && o.item == item && o.site == site ? o.units : 0;
        }
        return sum;
    }

    int roomLeft(int site) {
        site(site);
        int left = rooms.get(site);
        for (Lot l : lots) {
            left -= l.site == site ? l.owners.size() : 0;
        }
        return left;
    }

    int expiring(int item, int site, int days) {
        item(item);
        site(site);
        range(days, 0, 99);
        int sum = 0;
        for (Lot l : lots) {
            sum += l.item == item && l.site == site && l.last - day <= days ? l.owners.size() : 0;
        }
        return sum;
    }

    boolean couldTake(int item, int site, int units) {
        item(item);
        site(site);
        range(units, 1, 99);
        int sum = 0;
        for (Lot l : lots) {
            sum += l.item == item && l.site == site && l.last >= day ? inLot(l, -1) : 0;
        }
        return sum >= units;
    }

    int account(int what) {
        range(what, 0, 4);
        return accounts[what];
    }

    private int use(int item, int site, int onDay) {
        int sum = 0;
        for (Order o : orders) {
            sum += o.item == item && o.site == site && o.due == onDay && o.state != 2 ? o.units : 0;
        }
        return sum;
    }

    int rate(int item, int site, int days) {
        item(item);
        site(site);
        range(days, 1, 60);
        int sum = 0;
        for (int d = 0; d < days; d++) {
            sum += use(item, site, day - d);
        }
        return sum;
    }

    int pointFor(int item, int site, int days, int bridged) {
        item(item);
        site(site);
        range(days, 1, 60);
        range(bridged, 1, days);
        int best = 0;
        for (int first = 0; first + bridged <= days; first++) {
            int sum = 0;
            for (int d = 0; d < bridged; d++) {
                sum += use(item, site, day - first - d);
            }
            best = Math.max(best, sum);
        }
        return best;
    }

    int classOf(int item) {
        item(item);
        List<Integer> sorted = new ArrayList<>();
        double all = 0;
        for (int i = 0; i < items.size(); i++) {
            sorted.add(i);
            all += earned[i];
        }
        sorted.sort(Comparator.comparingInt(i -> -earned[i]));
        double ahead = 0;
        for (int i = 0; i < sorted.indexOf(item); i++) {
            ahead += earned[sorted.get(i)];
        }
        if (all == 0) {
            return 2;
        }
        return ahead * 5 < all * 4 ? 0 : ahead * 20 < all * 19 ? 1 : 2;
    }

    double punctuality() {
        double shipped = 0;
        double late = 0;
        for (Order o : orders) {
            shipped += o.state == 1 ? 1 : 0;
            late += o.state == 1 && o.shipped > o.due ? 1 : 0;
        }
        return shipped == 0 ? 1 : (shipped - late) / shipped;
    }

    int lacks(int item, int site) {
        item(item);
        site(site);
        Policy p = policies[item][site];
        return p == null ? 0 : Math.max(0, p.point - position(item, site));
    }

    int spares(int item, int site) {
        item(item);
        site(site);
        Policy p = policies[item][site];
        return p == null ? 0 : Math.max(0, Math.min(position(item, site) - p.top, free(item, site)));
    }

    int planned(int item, int from, int to) {
        item(item);
        site(from);
        site(to);
        return plan(item)[from][to];
    }

    /**
     * Costs in a number system with so great a base that the sum of the costs of a plan can be read as: days, then
     * (less is better) the units of each pair in order. Nodes: the sites, then the start, then the end.
     */
    int[][] plan(int item) {
        int n = rooms.size();
        BigInteger base = BigInteger.valueOf(1_000_000);
        int[][] cap = new int[n + 2][n + 2];
        BigInteger[][] cost = new BigInteger[n + 2][n + 2];
        for (BigInteger[] row : cost) {
            java.util.Arrays.fill(row, BigInteger.ZERO);
        }
        for (int f = 0; f < n; f++) {
            cap[n][f] = spares(item, f);
            cap[f][n + 1] = lacks(item, f);
            for (int t = 0; t < n; t++) {
                if (routes[f][t] > 0 && spares(item, f) > 0 && lacks(item, t) > 0) {
                    cap[f][t] = 100_000;
                    cost[f][t] = base.pow(30).multiply(BigInteger.valueOf(routes[f][t]))
                            .subtract(base.pow(29 - f * n - t));
                    cost[t][f] = cost[f][t].negate();
                }
            }
        }
        while (augment(cap, cost, n)) {
            continue;
        }
        int[][] plan = new int[n][n];
        for (int f = 0; f < n; f++) {
            for (int t = 0; t < n; t++) {
                if (cost[f][t].signum() > 0) {
                    plan[f][t] = 100_000 - cap[f][t];
                }
            }
        }
        return plan;
    }

    private static boolean augment(int[][] cap, BigInteger[][] cost, int n) {
        BigInteger[] far = new BigInteger[n + 2];
        int[] from = new int[n + 2];
        far[n] = BigInteger.ZERO;
        boolean changed = true;
        while (changed) {
            changed = false;
            for (int a = 0; a < n + 2; a++) {
                for (int b = 0; b < n + 2; b++) {
                    if (far[a] != null && cap[a][b] > 0
                            && (far[b] == null || far[a].add(cost[a][b]).compareTo(far[b]) < 0)) {
                        far[b] = far[a].add(cost[a][b]);
                        from[b] = a;
                        changed = true;
                    }
                }
            }
        }
        if (far[n + 1] == null) {
            return false;
        }
        int least = Integer.MAX_VALUE;
        for (int b = n + 1; b != n; b = from[b]) {
            least = Math.min(least, cap[from[b]][b]);
        }
        for (int b = n + 1; b != n; b = from[b]) {
            cap[from[b]][b] -= least;
            cap[b][from[b]] += least;
        }
        return true;
    }

    int onHandIn(int item, int site, int days) {
        item(item);
        site(site);
        range(days, 1, 30);
        Model c = copy();
        c.pass(days);
        return c.onHand(item, site);
    }

    int firstShort(int days) {
        range(days, 1, 30);
        Model c = copy();
        for (int d = 0; d < days; d++) {
            c.pass(1);
            if (c.accounts[2] > accounts[2]) {
                return c.day;
            }
        }
        return -1;
    }

    int shippedOn(int order, int days) {
        if (order < 0 || order >= orders.size()) {
            throw new IndexOutOfBoundsException();
        }
        range(days, 1, 30);
        Model c = copy();
        c.pass(days);
        return c.orders.get(order).shipped;
    }

    long digest() {
        List<Long> all = new ArrayList<>();
        long[] counts = {day, items.size(), rooms.size(), lots.size(), orders.size(), transports.size()};
        for (long x : counts) {
            all.add(x);
        }
        for (int w = 0; w < 5; w++) {
            all.add((long) account(w));
        }
        for (int l = 0; l < lots.size(); l++) {
            for (int w = 0; w < 5; w++) {
                all.add((long) ofLot(l, w));
            }
        }
        for (int o = 0; o < orders.size(); o++) {
            for (int w = 0; w < 5; w++) {
                all.add((long) ofOrder(o, w));
            }
            for (int l = 0; l < lots.size(); l++) {
                if (reserved(o, l) != 0) {
                    all.add((long) l);
                    all.add((long) reserved(o, l));
                }
            }
        }
        for (int t = 0; t < transports.size(); t++) {
            for (int w = 0; w < 6; w++) {
                all.add((long) ofTransport(t, w));
            }
        }
        for (int f = 0; f < rooms.size(); f++) {
            for (int t = 0; t < rooms.size(); t++) {
                all.add((long) routes[f][t]);
            }
        }
        addStocks(all);
        long d = 58035;
        for (long x : all) {
            d = d * 31 + x;
        }
        return d;
    }

    private void addStocks(List<Long> all) {
        for (int i = 0; i < items.size(); i++) {
            for (int s = 0; s < rooms.size(); s++) {
                all.add(hasPolicy(i, s) ? 1L : 0L);
                all.add((long) onHand(i, s));
                all.add((long) free(i, s));
                all.add((long) underWay(i, s));
                all.add((long) position(i, s));
                all.add((long) lacks(i, s));
                all.add((long) spares(i, s));
                all.add((long) rate(i, s, 7));
            }
        }
        for (int i = 0; i < items.size(); i++) {
            all.add((long) classOf(i));
            int[][] plan = plan(i);
            for (int f = 0; f < rooms.size(); f++) {
                for (int t = 0; t < rooms.size(); t++) {
                    if (f != t) {
                        all.add((long) plan[f][t]);
                    }
                }
            }
        }
        for (int s = 0; s < rooms.size(); s++) {
            all.add((long) roomLeft(s));
        }
    }
}
