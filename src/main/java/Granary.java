/** A planner for stocks. The document (../shared/DOC.md) tells what each call promises. */
public final class Granary {
    private static final int MAX_ITEMS = 6;
    private static final int MAX_SITES = 5;
    private static final int MAX_LOTS = 200;
    private static final int MAX_ORDERS = 60;
    private static final int MAX_TRANSPORTS = 90;

    private static final int OPEN = 0;
    private static final int SHIPPED = 1;
    private static final int CANCELLED = 2;

    /** The source of a policy that orders from outside. */
    private static final int OUTSIDE = -1;
    /** Far behind every day that 512 calls can come to. */
    private static final int LAST_OF_ALL_DAYS = 1000000;
    /** Stands for a lot, an order, a site or a day that there is not. */
    private static final int NONE = -1;

    private static final int HOLDING = 0;
    private static final int WASTE = 1;
    private static final int SHORTAGE = 2;
    private static final int SPENT = 3;
    private static final int EARNED = 4;
    private static final int ACCOUNTS = 5;

    private static final long DIGEST_START = 58035L;
    private static final int DIGEST_RATE_DAYS = 7;

    private final Stock now = new Stock();
    /** What would be: made like now for each such question, so that now is never touched by one. */
    private final Stock later = new Stock();
    private final Plan plan = new Plan();

    public Granary() {
    }

    // ---- what there is

    public int addItem(int life, int price, int pack) throws IllegalArgumentException, IllegalStateException {
        needWithin(life, 1, 99);
        needWithin(price, 1, 99);
        needWithin(pack, 1, 20);
        needState(now.items.count < MAX_ITEMS);
        return now.items.add(life, price, pack);
    }

    public int addSite(int room) throws IllegalArgumentException, IllegalStateException {
        needWithin(room, 1, 9999);
        needState(now.sites.count < MAX_SITES);
        return now.sites.add(room);
    }

    public int setRoute(int from, int to, int days) throws IndexOutOfBoundsException, IllegalArgumentException {
        needSite(from);
        needSite(to);
        needArgument(from != to);
        needWithin(days, 0, 9);
        int before = now.sites.daysBetween(from, to);
        now.sites.days[pair(from, to)] = days;
        if (days == 0) {
            now.policies.dropFilledFrom(from, to);
        }
        return before;
    }

    public boolean setPolicy(int item, int site, int point, int top, int source, int lead)
            throws IndexOutOfBoundsException, IllegalArgumentException {
        needItem(item);
        needSite(site);
        needWithin(point, 0, 999);
        needWithin(top, point, 999);
        if (source == OUTSIDE) {
            needWithin(lead, 1, 20);
        } else {
            needArgument(now.sites.daysBetween(source, site) > 0);
        }
        boolean before = now.policies.stands(item, site);
        int at = pair(item, site);
        now.policies.set[at] = true;
        now.policies.point[at] = point;
        now.policies.top[at] = top;
        now.policies.source[at] = source;
        now.policies.lead[at] = lead;
        return before;
    }

    public int receive(int item, int site, int units, int days)
            throws IndexOutOfBoundsException, IllegalArgumentException, IllegalStateException {
        needItem(item);
        needSite(site);
        needWithin(units, 1, 999);
        needWithin(days, 0, 99);
        needState(now.lots.count < MAX_LOTS);
        needState(units <= now.roomAt(site));
        now.account[SPENT] += units * now.items.priceOf(item);
        return now.lots.add(item, site, units, now.day + days);
    }

    // ---- orders

    public int order(int item, int site, int units, int due, int rank, int keep)
            throws IndexOutOfBoundsException, IllegalArgumentException, IllegalStateException {
        needItem(item);
        needSite(site);
        needWithin(units, 1, 99);
        needWithin(due, 0, 60);
        needWithin(rank, 0, 9);
        needWithin(keep, 0, 20);
        needState(now.orders.count < MAX_ORDERS);
        int order = now.orders.add(item, site, units, now.day + due, rank, keep);
        now.reserveFor(order);
        return order;
    }

    public int cancel(int order) throws IndexOutOfBoundsException, IllegalStateException {
        needOrder(order);
        needState(now.orders.state[order] == OPEN);
        int freed = now.orders.reserved[order];
        now.release(order);
        now.orders.state[order] = CANCELLED;
        return freed;
    }

    public int reserveAnew() {
        for (int order = 0; order < now.orders.count; order++) {
            now.release(order);
        }
        now.reserveForAll();
        return now.orders.allReserved();
    }

    public int ship(int order) throws IndexOutOfBoundsException, IllegalStateException {
        needOrder(order);
        needState(now.orders.state[order] == OPEN);
        needState(now.orders.missing(order) == 0);
        now.shipOrder(order);
        return now.orders.units[order];
    }

    // ---- days and sending

    public int pass(int days) throws IllegalArgumentException {
        needWithin(days, 1, 30);
        now.liveDays(days);
        return now.day;
    }

    public int send(int item, int from, int to, int units) throws IndexOutOfBoundsException, IllegalArgumentException {
        needItem(item);
        needSite(from);
        needSite(to);
        needArgument(now.sites.daysBetween(from, to) > 0);
        needWithin(units, 1, 999);
        return now.sendUnits(item, from, to, units);
    }

    public int balance(int item) throws IndexOutOfBoundsException {
        needItem(item);
        plan.make(now, item);
        int sent = 0;
        for (int from = 0; from < now.sites.count; from++) {
            for (int to = 0; to < now.sites.count; to++) {
                sent += now.sendUnits(item, from, to, plan.units[pair(from, to)]);
            }
        }
        return sent;
    }

    // ---- asking what there is

    public int day() {
        return now.day;
    }

    public int items() {
        return now.items.count;
    }

    public int sites() {
        return now.sites.count;
    }

    public int lots() {
        return now.lots.count;
    }

    public int orders() {
        return now.orders.count;
    }

    public int transports() {
        return now.transports.count;
    }

    public int ofLot(int lot, int what) throws IndexOutOfBoundsException, IllegalArgumentException {
        needLot(lot);
        needWithin(what, 0, 4);
        return now.lots.tell(lot, what);
    }

    public int ofOrder(int order, int what) throws IndexOutOfBoundsException, IllegalArgumentException {
        needOrder(order);
        needWithin(what, 0, 4);
        return now.orders.tell(order, what);
    }

    public int reserved(int order, int lot) throws IndexOutOfBoundsException {
        needOrder(order);
        needLot(lot);
        return now.orders.heldOf(order, lot);
    }

    public int ofTransport(int transport, int what) throws IndexOutOfBoundsException, IllegalArgumentException {
        needIndex(now.transports.has(transport));
        needWithin(what, 0, 5);
        return now.transports.tell(transport, what);
    }

    public int route(int from, int to) throws IndexOutOfBoundsException {
        needSite(from);
        needSite(to);
        return now.sites.daysBetween(from, to);
    }

    public boolean hasPolicy(int item, int site) throws IndexOutOfBoundsException {
        needItem(item);
        needSite(site);
        return now.policies.stands(item, site);
    }

    // ---- asking stocks

    public int onHand(int item, int site) throws IndexOutOfBoundsException {
        needItem(item);
        needSite(site);
        return now.lots.unitsAt(item, site);
    }

    public int free(int item, int site) throws IndexOutOfBoundsException {
        needItem(item);
        needSite(site);
        return now.lots.freeAt(item, site);
    }

    public int underWay(int item, int site) throws IndexOutOfBoundsException {
        needItem(item);
        needSite(site);
        return now.transports.unitsTo(item, site);
    }

    public int position(int item, int site) throws IndexOutOfBoundsException {
        needItem(item);
        needSite(site);
        return now.positionAt(item, site);
    }

    public int roomLeft(int site) throws IndexOutOfBoundsException {
        needSite(site);
        return now.roomAt(site);
    }

    public int expiring(int item, int site, int days) throws IndexOutOfBoundsException, IllegalArgumentException {
        needItem(item);
        needSite(site);
        needWithin(days, 0, 99);
        return now.lots.unitsUpTo(item, site, now.day + days);
    }

    public boolean couldTake(int item, int site, int units)
            throws IndexOutOfBoundsException, IllegalArgumentException {
        needItem(item);
        needSite(site);
        needWithin(units, 1, 99);
        return now.lots.freeFrom(item, site, now.day) >= units;
    }

    // ---- what was counted

    public int account(int what) throws IllegalArgumentException {
        needWithin(what, 0, ACCOUNTS - 1);
        return now.account[what];
    }

    public int rate(int item, int site, int days) throws IndexOutOfBoundsException, IllegalArgumentException {
        needItem(item);
        needSite(site);
        needWithin(days, 1, 60);
        return now.rateOver(item, site, days);
    }

    public int pointFor(int item, int site, int days, int bridged)
            throws IndexOutOfBoundsException, IllegalArgumentException {
        needItem(item);
        needSite(site);
        needWithin(days, 1, 60);
        needWithin(bridged, 1, days);
        int greatest = 0;
        for (int ago = 0; ago <= days - bridged; ago++) {
            int last = now.day - ago;
            greatest = Math.max(greatest, now.orders.useWithin(item, site, last - bridged + 1, last));
        }
        return greatest;
    }

    public int classOf(int item) throws IndexOutOfBoundsException {
        needItem(item);
        return now.items.classFor(item);
    }

    public double punctuality() {
        return now.orders.punctualPart();
    }

    // ---- balancing, asked

    public int lacks(int item, int site) throws IndexOutOfBoundsException {
        needItem(item);
        needSite(site);
        return now.lackAt(item, site);
    }

    public int spares(int item, int site) throws IndexOutOfBoundsException {
        needItem(item);
        needSite(site);
        return now.spareAt(item, site);
    }

    public int planned(int item, int from, int to) throws IndexOutOfBoundsException {
        needItem(item);
        needSite(from);
        needSite(to);
        plan.make(now, item);
        return plan.units[pair(from, to)];
    }

    // ---- what would be (nothing is changed)

    public int onHandIn(int item, int site, int days) throws IndexOutOfBoundsException, IllegalArgumentException {
        needItem(item);
        needSite(site);
        needWithin(days, 1, 30);
        later.becomeLike(now);
        later.liveDays(days);
        return later.lots.unitsAt(item, site);
    }

    public int firstShort(int days) throws IllegalArgumentException {
        needWithin(days, 1, 30);
        later.becomeLike(now);
        int shortage = later.account[SHORTAGE];
        for (int gone = 0; gone < days; gone++) {
            later.liveDays(1);
            if (later.account[SHORTAGE] != shortage) {
                return later.day;
            }
        }
        return NONE;
    }

    public int shippedOn(int order, int days) throws IndexOutOfBoundsException, IllegalArgumentException {
        needOrder(order);
        needWithin(days, 1, 30);
        later.becomeLike(now);
        for (int gone = 0; gone < days && later.orders.state[order] == OPEN; gone++) {
            later.liveDays(1);
        }
        return later.orders.shipDay[order];
    }

    public long digest() {
        long sum = mixCounts(DIGEST_START);
        sum = mixLots(sum);
        sum = mixOrders(sum);
        sum = mixTransports(sum);
        sum = mixRoutes(sum);
        sum = mixStocks(sum);
        sum = mixPlans(sum);
        for (int site = 0; site < now.sites.count; site++) {
            sum = mix(sum, now.roomAt(site));
        }
        return sum;
    }

    private long mixCounts(long start) {
        long sum = mix(start, now.day);
        sum = mix(sum, now.items.count);
        sum = mix(sum, now.sites.count);
        sum = mix(sum, now.lots.count);
        sum = mix(sum, now.orders.count);
        sum = mix(sum, now.transports.count);
        for (int what = 0; what < ACCOUNTS; what++) {
            sum = mix(sum, now.account[what]);
        }
        return sum;
    }

    private long mixLots(long start) {
        long sum = start;
        for (int lot = 0; lot < now.lots.count; lot++) {
            for (int what = 0; what <= 4; what++) {
                sum = mix(sum, now.lots.tell(lot, what));
            }
        }
        return sum;
    }

    private long mixOrders(long start) {
        long sum = start;
        for (int order = 0; order < now.orders.count; order++) {
            for (int what = 0; what <= 4; what++) {
                sum = mix(sum, now.orders.tell(order, what));
            }
            for (int lot = 0; lot < now.lots.count; lot++) {
                int held = now.orders.heldOf(order, lot);
                if (held > 0) {
                    sum = mix(mix(sum, lot), held);
                }
            }
        }
        return sum;
    }

    private long mixTransports(long start) {
        long sum = start;
        for (int transport = 0; transport < now.transports.count; transport++) {
            for (int what = 0; what <= 5; what++) {
                sum = mix(sum, now.transports.tell(transport, what));
            }
        }
        return sum;
    }

    private long mixRoutes(long start) {
        long sum = start;
        for (int from = 0; from < now.sites.count; from++) {
            for (int to = 0; to < now.sites.count; to++) {
                sum = mix(sum, now.sites.daysBetween(from, to));
            }
        }
        return sum;
    }

    private long mixStocks(long start) {
        long sum = start;
        for (int item = 0; item < now.items.count; item++) {
            for (int site = 0; site < now.sites.count; site++) {
                sum = mix(sum, now.policies.stands(item, site) ? 1 : 0);
                sum = mix(sum, now.lots.unitsAt(item, site));
                sum = mix(sum, now.lots.freeAt(item, site));
                sum = mix(sum, now.transports.unitsTo(item, site));
                sum = mix(sum, now.positionAt(item, site));
                sum = mix(sum, now.lackAt(item, site));
                sum = mix(sum, now.spareAt(item, site));
                sum = mix(sum, now.rateOver(item, site, DIGEST_RATE_DAYS));
            }
        }
        return sum;
    }

    private long mixPlans(long start) {
        long sum = start;
        for (int item = 0; item < now.items.count; item++) {
            sum = mix(sum, now.items.classFor(item));
            plan.make(now, item);
            for (int from = 0; from < now.sites.count; from++) {
                for (int to = 0; to < now.sites.count; to++) {
                    if (from != to) {
                        sum = mix(sum, plan.units[pair(from, to)]);
                    }
                }
            }
        }
        return sum;
    }

    private static long mix(long sum, long number) {
        return sum * 31 + number;
    }

    // ---- what a call asks of its arguments

    private void needItem(int item) {
        needIndex(now.items.has(item));
    }

    private void needSite(int site) {
        needIndex(now.sites.has(site));
    }

    private void needLot(int lot) {
        needIndex(now.lots.has(lot));
    }

    private void needOrder(int order) {
        needIndex(now.orders.has(order));
    }

    private static void needIndex(boolean there) {
        if (!there) {
            throw new IndexOutOfBoundsException("there is none of this number");
        }
    }

    private static void needWithin(int value, int least, int most) {
        needArgument(value >= least && value <= most);
    }

    private static void needArgument(boolean fits) {
        if (!fits) {
            throw new IllegalArgumentException("an argument is not as it has to be");
        }
    }

    private static void needState(boolean fits) {
        if (!fits) {
            throw new IllegalStateException("this is not possible as things stand");
        }
    }

    /** The place of a site and another one, or of an item and a site, in a row of all of these. */
    private static int pair(int first, int site) {
        return first * MAX_SITES + site;
    }

    private static final class Items {
        int count;
        final int[] life = new int[MAX_ITEMS];
        final int[] price = new int[MAX_ITEMS];
        final int[] pack = new int[MAX_ITEMS];
        final int[] earned = new int[MAX_ITEMS];

        boolean has(int item) {
            return item >= 0 && item < count;
        }

        int add(int itsLife, int itsPrice, int itsPack) {
            if (count >= MAX_ITEMS) {
                return NONE;
            }
            life[count] = itsLife;
            price[count] = itsPrice;
            pack[count] = itsPack;
            earned[count] = 0;
            count++;
            return count - 1;
        }

        int priceOf(int item) {
            return has(item) ? price[item] : 0;
        }

        int inPacks(int item, int units) {
            if (!has(item) || pack[item] <= 0) {
                return units;
            }
            int over = units % pack[item];
            return over == 0 ? units : units + pack[item] - over;
        }

        int classFor(int item) {
            int all = 0;
            int ahead = 0;
            for (int other = 0; other < count; other++) {
                all += earned[other];
                if (earned[other] > earned[item] || earned[other] == earned[item] && other < item) {
                    ahead += earned[other];
                }
            }
            // Compared without a division, so that nothing is cut; with nothing earned at all neither holds.
            if (ahead * 100 < all * 80) {
                return 0;
            }
            return ahead * 100 < all * 95 ? 1 : 2;
        }

        void becomeLike(Items other) {
            count = other.count;
            System.arraycopy(other.life, 0, life, 0, MAX_ITEMS);
            System.arraycopy(other.price, 0, price, 0, MAX_ITEMS);
            System.arraycopy(other.pack, 0, pack, 0, MAX_ITEMS);
            System.arraycopy(other.earned, 0, earned, 0, MAX_ITEMS);
        }
    }

    private static final class Sites {
        int count;
        final int[] room = new int[MAX_SITES];
        /** The days of the routes; 0 where there is none. */
        final int[] days = new int[MAX_SITES * MAX_SITES];

        boolean has(int site) {
            return site >= 0 && site < count;
        }

        int add(int itsRoom) {
            if (count >= MAX_SITES) {
                return NONE;
            }
            room[count] = itsRoom;
            count++;
            return count - 1;
        }

        int daysBetween(int from, int to) {
            return has(from) && has(to) ? days[pair(from, to)] : 0;
        }

        void becomeLike(Sites other) {
            count = other.count;
            System.arraycopy(other.room, 0, room, 0, MAX_SITES);
            System.arraycopy(other.days, 0, days, 0, MAX_SITES * MAX_SITES);
        }
    }

    private static final class Policies {
        private static final int PLACES = MAX_ITEMS * MAX_SITES;

        final boolean[] set = new boolean[PLACES];
        final int[] point = new int[PLACES];
        final int[] top = new int[PLACES];
        final int[] source = new int[PLACES];
        final int[] lead = new int[PLACES];

        boolean stands(int item, int site) {
            return set[pair(item, site)];
        }

        void dropFilledFrom(int from, int to) {
            for (int item = 0; item < MAX_ITEMS; item++) {
                if (source[pair(item, to)] == from) {
                    set[pair(item, to)] = false;
                }
            }
        }

        void becomeLike(Policies other) {
            // LANGUAGE.md tells of rows of numbers to copy, and these are none.
            for (int place = 0; place < PLACES; place++) {
                set[place] = other.set[place];
            }
            System.arraycopy(other.point, 0, point, 0, PLACES);
            System.arraycopy(other.top, 0, top, 0, PLACES);
            System.arraycopy(other.source, 0, source, 0, PLACES);
            System.arraycopy(other.lead, 0, lead, 0, PLACES);
        }
    }

    private static final class Lots {
        int count;
        final int[] item = new int[MAX_LOTS];
        final int[] site = new int[MAX_LOTS];
        final int[] units = new int[MAX_LOTS];
        final int[] reserved = new int[MAX_LOTS];
        final int[] last = new int[MAX_LOTS];

        boolean has(int lot) {
            return lot >= 0 && lot < count;
        }

        int add(int itsItem, int itsSite, int itsUnits, int itsLast) {
            if (count >= MAX_LOTS) {
                return NONE;
            }
            item[count] = itsItem;
            site[count] = itsSite;
            units[count] = itsUnits;
            reserved[count] = 0;
            last[count] = itsLast;
            count++;
            return count - 1;
        }

        int tell(int lot, int what) {
            switch (what) {
                case 0:
                    return item[lot];
                case 1:
                    return site[lot];
                case 2:
                    return units[lot];
                case 3:
                    return reserved[lot];
                default:
                    return last[lot];
            }
        }

        int freeOf(int lot) {
            return units[lot] - reserved[lot];
        }

        int unitsAt(int itsItem, int itsSite) {
            return unitsUpTo(itsItem, itsSite, LAST_OF_ALL_DAYS);
        }

        int unitsUpTo(int itsItem, int itsSite, int latest) {
            int sum = 0;
            for (int lot = 0; lot < count; lot++) {
                if (item[lot] == itsItem && site[lot] == itsSite && last[lot] <= latest) {
                    sum += units[lot];
                }
            }
            return sum;
        }

        int freeAt(int itsItem, int itsSite) {
            return freeFrom(itsItem, itsSite, 0);
        }

        int freeFrom(int itsItem, int itsSite, int earliest) {
            int sum = 0;
            for (int lot = 0; lot < count; lot++) {
                if (item[lot] == itsItem && site[lot] == itsSite && last[lot] >= earliest) {
                    sum += freeOf(lot);
                }
            }
            return sum;
        }

        int allUnitsAt(int itsSite) {
            int sum = 0;
            for (int lot = 0; lot < count; lot++) {
                if (site[lot] == itsSite) {
                    sum += units[lot];
                }
            }
            return sum;
        }

        /** The lot to take from first, of those with free units that can be used on the day told. */
        int firstFree(int itsItem, int itsSite, int earliest) {
            int first = NONE;
            for (int lot = 0; lot < count; lot++) {
                if (item[lot] == itsItem && site[lot] == itsSite && last[lot] >= earliest
                        && freeOf(lot) > 0 && (first == NONE || last[lot] < last[first])) {
                    first = lot;
                }
            }
            return first;
        }

        void becomeLike(Lots other) {
            count = other.count;
            System.arraycopy(other.item, 0, item, 0, MAX_LOTS);
            System.arraycopy(other.site, 0, site, 0, MAX_LOTS);
            System.arraycopy(other.units, 0, units, 0, MAX_LOTS);
            System.arraycopy(other.reserved, 0, reserved, 0, MAX_LOTS);
            System.arraycopy(other.last, 0, last, 0, MAX_LOTS);
        }
    }

    private static final class Orders {
        int count;
        final int[] item = new int[MAX_ORDERS];
        final int[] site = new int[MAX_ORDERS];
        final int[] units = new int[MAX_ORDERS];
        final int[] reserved = new int[MAX_ORDERS];
        final int[] due = new int[MAX_ORDERS];
        final int[] rank = new int[MAX_ORDERS];
        final int[] keep = new int[MAX_ORDERS];
        final int[] state = new int[MAX_ORDERS];
        final int[] shipDay = new int[MAX_ORDERS];
        /** Of each order, lot by lot, the units that are reserved for it. */
        final int[] held = new int[MAX_ORDERS * MAX_LOTS];

        boolean has(int order) {
            return order >= 0 && order < count;
        }

        int add(int itsItem, int itsSite, int itsUnits, int itsDue, int itsRank, int itsKeep) {
            if (count >= MAX_ORDERS) {
                return NONE;
            }
            item[count] = itsItem;
            site[count] = itsSite;
            units[count] = itsUnits;
            reserved[count] = 0;
            due[count] = itsDue;
            rank[count] = itsRank;
            keep[count] = itsKeep;
            state[count] = OPEN;
            shipDay[count] = NONE;
            count++;
            return count - 1;
        }

        int tell(int order, int what) {
            switch (what) {
                case 0:
                    return state[order];
                case 1:
                    return units[order];
                case 2:
                    return reserved[order];
                case 3:
                    return due[order];
                default:
                    return shipDay[order];
            }
        }

        int heldOf(int order, int lot) {
            return held[order * MAX_LOTS + lot];
        }

        int missing(int order) {
            return units[order] - reserved[order];
        }

        boolean isFrom(int order, int itsItem, int itsSite) {
            return item[order] == itsItem && site[order] == itsSite;
        }

        boolean comesAhead(int order, int other) {
            if (rank[order] != rank[other]) {
                return rank[order] < rank[other];
            }
            if (due[order] != due[other]) {
                return due[order] < due[other];
            }
            return order < other;
        }

        int openUnitsFrom(int itsItem, int itsSite) {
            int sum = 0;
            for (int order = 0; order < count; order++) {
                if (state[order] == OPEN && isFrom(order, itsItem, itsSite)) {
                    sum += units[order];
                }
            }
            return sum;
        }

        /** No due day is below 0, so days below 0 have no use by themselves. */
        int useWithin(int itsItem, int itsSite, int firstDay, int lastDay) {
            int sum = 0;
            for (int order = 0; order < count; order++) {
                if (state[order] != CANCELLED && isFrom(order, itsItem, itsSite)
                        && due[order] >= firstDay && due[order] <= lastDay) {
                    sum += units[order];
                }
            }
            return sum;
        }

        int allReserved() {
            int sum = 0;
            for (int order = 0; order < count; order++) {
                sum += reserved[order];
            }
            return sum;
        }

        double punctualPart() {
            int shipped = 0;
            int punctual = 0;
            for (int order = 0; order < count; order++) {
                if (state[order] == SHIPPED) {
                    shipped++;
                    if (shipDay[order] <= due[order]) {
                        punctual++;
                    }
                }
            }
            return shipped == 0 ? 1.0 : (double) punctual / (double) shipped;
        }

        void becomeLike(Orders other) {
            count = other.count;
            System.arraycopy(other.item, 0, item, 0, MAX_ORDERS);
            System.arraycopy(other.site, 0, site, 0, MAX_ORDERS);
            System.arraycopy(other.units, 0, units, 0, MAX_ORDERS);
            System.arraycopy(other.reserved, 0, reserved, 0, MAX_ORDERS);
            System.arraycopy(other.due, 0, due, 0, MAX_ORDERS);
            System.arraycopy(other.rank, 0, rank, 0, MAX_ORDERS);
            System.arraycopy(other.keep, 0, keep, 0, MAX_ORDERS);
            System.arraycopy(other.state, 0, state, 0, MAX_ORDERS);
            System.arraycopy(other.shipDay, 0, shipDay, 0, MAX_ORDERS);
            System.arraycopy(other.held, 0, held, 0, MAX_ORDERS * MAX_LOTS);
        }
    }

    private static final class Transports {
        int count;
        final int[] item = new int[MAX_TRANSPORTS];
        final int[] site = new int[MAX_TRANSPORTS];
        final int[] units = new int[MAX_TRANSPORTS];
        final int[] arrival = new int[MAX_TRANSPORTS];
        final int[] last = new int[MAX_TRANSPORTS];
        final int[] moving = new int[MAX_TRANSPORTS];

        boolean has(int transport) {
            return transport >= 0 && transport < count;
        }

        boolean full() {
            return count >= MAX_TRANSPORTS;
        }

        void add(int itsItem, int itsSite, int itsUnits, int itsArrival, int itsLast) {
            if (full()) {
                return;
            }
            item[count] = itsItem;
            site[count] = itsSite;
            units[count] = itsUnits;
            arrival[count] = itsArrival;
            last[count] = itsLast;
            moving[count] = 1;
            count++;
        }

        int tell(int transport, int what) {
            switch (what) {
                case 0:
                    return item[transport];
                case 1:
                    return site[transport];
                case 2:
                    return units[transport];
                case 3:
                    return arrival[transport];
                case 4:
                    return last[transport];
                default:
                    return moving[transport];
            }
        }

        int unitsTo(int itsItem, int itsSite) {
            int sum = 0;
            for (int transport = 0; transport < count; transport++) {
                if (moving[transport] == 1 && item[transport] == itsItem && site[transport] == itsSite) {
                    sum += units[transport];
                }
            }
            return sum;
        }

        void becomeLike(Transports other) {
            count = other.count;
            System.arraycopy(other.item, 0, item, 0, MAX_TRANSPORTS);
            System.arraycopy(other.site, 0, site, 0, MAX_TRANSPORTS);
            System.arraycopy(other.units, 0, units, 0, MAX_TRANSPORTS);
            System.arraycopy(other.arrival, 0, arrival, 0, MAX_TRANSPORTS);
            System.arraycopy(other.last, 0, last, 0, MAX_TRANSPORTS);
            System.arraycopy(other.moving, 0, moving, 0, MAX_TRANSPORTS);
        }
    }

    /** All that there is on a day, and how it goes on. */
    private static final class Stock {
        int day;
        final Items items = new Items();
        final Sites sites = new Sites();
        final Policies policies = new Policies();
        final Lots lots = new Lots();
        final Orders orders = new Orders();
        final Transports transports = new Transports();
        final int[] account = new int[ACCOUNTS];
        /** The open orders as they are reserved for; made once, so that no day makes a row of its own. */
        private final int[] queue = new int[MAX_ORDERS];

        void becomeLike(Stock other) {
            day = other.day;
            items.becomeLike(other.items);
            sites.becomeLike(other.sites);
            policies.becomeLike(other.policies);
            lots.becomeLike(other.lots);
            orders.becomeLike(other.orders);
            transports.becomeLike(other.transports);
            System.arraycopy(other.account, 0, account, 0, ACCOUNTS);
        }

        int roomAt(int site) {
            return sites.has(site) ? sites.room[site] - lots.allUnitsAt(site) : 0;
        }

        int positionAt(int item, int site) {
            return lots.unitsAt(item, site) + transports.unitsTo(item, site) - orders.openUnitsFrom(item, site);
        }

        int lackAt(int item, int site) {
            if (!policies.stands(item, site)) {
                return 0;
            }
            return Math.max(0, policies.point[pair(item, site)] - positionAt(item, site));
        }

        int spareAt(int item, int site) {
            if (!policies.stands(item, site)) {
                return 0;
            }
            int over = positionAt(item, site) - policies.top[pair(item, site)];
            return Math.max(0, Math.min(over, lots.freeAt(item, site)));
        }

        int rateOver(int item, int site, int days) {
            return orders.useWithin(item, site, day - days + 1, day);
        }

        // -- reserving

        /** The only place that changes what is reserved, so that the three counts of it agree. */
        private void hold(int order, int lot, int units) {
            orders.held[order * MAX_LOTS + lot] += units;
            orders.reserved[order] += units;
            lots.reserved[lot] += units;
        }

        void release(int order) {
            for (int lot = 0; lot < lots.count; lot++) {
                hold(order, lot, -orders.heldOf(order, lot));
            }
        }

        void reserveFor(int order) {
            int earliest = Math.max(orders.due[order], day) + orders.keep[order];
            // Each turn fills the order or leaves a lot without free units.
            for (int turn = 0; turn < MAX_LOTS && orders.missing(order) > 0; turn++) {
                int lot = lots.firstFree(orders.item[order], orders.site[order], earliest);
                if (lot == NONE) {
                    return;
                }
                hold(order, lot, Math.min(orders.missing(order), lots.freeOf(lot)));
            }
        }

        void reserveForAll() {
            int length = queueOpenOrders();
            for (int place = 0; place < length; place++) {
                reserveFor(queue[place]);
            }
        }

        private int queueOpenOrders() {
            int length = 0;
            for (int order = 0; order < orders.count; order++) {
                if (orders.state[order] == OPEN) {
                    int place = length;
                    while (place > 0 && orders.comesAhead(order, queue[place - 1])) {
                        queue[place] = queue[place - 1];
                        place--;
                    }
                    queue[place] = order;
                    length++;
                }
            }
            return length;
        }

        void shipOrder(int order) {
            for (int lot = 0; lot < lots.count; lot++) {
                int units = orders.heldOf(order, lot);
                hold(order, lot, -units);
                lots.units[lot] -= units;
            }
            orders.state[order] = SHIPPED;
            orders.shipDay[order] = day;
            int item = orders.item[order];
            int earned = orders.units[order] * 2 * items.priceOf(item);
            account[EARNED] += earned;
            if (items.has(item)) {
                items.earned[item] += earned;
            }
        }

        // -- sending

        int sendUnits(int item, int from, int to, int units) {
            int days = sites.daysBetween(from, to);
            if (days == 0) {
                return 0;
            }
            int arrival = day + days;
            int sent = 0;
            for (int turn = 0; turn < MAX_TRANSPORTS && sent < units && !transports.full(); turn++) {
                int lot = lots.firstFree(item, from, arrival + 1);
                if (lot == NONE) {
                    return sent;
                }
                int part = Math.min(units - sent, lots.freeOf(lot));
                transports.add(item, to, part, arrival, lots.last[lot]);
                lots.units[lot] -= part;
                sent += part;
            }
            return sent;
        }

        private void review(int item, int site) {
            if (!policies.stands(item, site)) {
                return;
            }
            int at = pair(item, site);
            int position = positionAt(item, site);
            if (position > policies.point[at] || position >= policies.top[at]) {
                return;
            }
            int wanted = items.inPacks(item, policies.top[at] - position);
            if (policies.source[at] == OUTSIDE) {
                orderOutside(item, site, wanted, policies.lead[at]);
            } else {
                sendUnits(item, policies.source[at], site, wanted);
            }
        }

        private void orderOutside(int item, int site, int units, int lead) {
            if (transports.full() || !items.has(item)) {
                return;
            }
            int arrival = day + lead;
            transports.add(item, site, units, arrival, arrival + items.life[item]);
            account[SPENT] += units * items.priceOf(item);
        }

        // -- a day

        void liveDays(int days) {
            for (int gone = 0; gone < days; gone++) {
                day++;
                wasteExpired();
                takeArrivals();
                reserveForAll();
                serveDueOrders();
                reviewAll();
                countHolding();
            }
        }

        private void wasteExpired() {
            for (int lot = 0; lot < lots.count; lot++) {
                if (lots.last[lot] < day && lots.units[lot] > 0) {
                    for (int order = 0; order < orders.count; order++) {
                        hold(order, lot, -orders.heldOf(order, lot));
                    }
                    waste(lots.item[lot], lots.units[lot]);
                    lots.units[lot] = 0;
                }
            }
        }

        private void waste(int item, int units) {
            account[WASTE] += units * items.priceOf(item);
        }

        private void takeArrivals() {
            for (int transport = 0; transport < transports.count; transport++) {
                if (transports.moving[transport] == 1 && transports.arrival[transport] == day) {
                    takeIn(transport);
                }
            }
        }

        private void takeIn(int transport) {
            transports.moving[transport] = 0;
            int item = transports.item[transport];
            int site = transports.site[transport];
            int last = transports.last[transport];
            int taken = Math.min(transports.units[transport], roomAt(site));
            if (last < day || lots.count >= MAX_LOTS) {
                taken = 0;
            }
            if (taken > 0) {
                lots.add(item, site, taken, last);
            }
            waste(item, transports.units[transport] - taken);
        }

        private void serveDueOrders() {
            for (int order = 0; order < orders.count; order++) {
                if (orders.state[order] == OPEN && orders.due[order] <= day) {
                    if (orders.missing(order) == 0) {
                        shipOrder(order);
                    } else {
                        account[SHORTAGE] += orders.missing(order);
                    }
                }
            }
        }

        private void reviewAll() {
            for (int item = 0; item < items.count; item++) {
                for (int site = 0; site < sites.count; site++) {
                    review(item, site);
                }
            }
        }

        private void countHolding() {
            for (int lot = 0; lot < lots.count; lot++) {
                account[HOLDING] += lots.units[lot] * items.priceOf(lots.item[lot]);
            }
        }
    }

    /**
     * The plan by which an item is balanced: the greatest flow of least cost from the sites that can spare to
     * those that lack, found by the cheapest way for more units, again and again.
     */
    private static final class Plan {
        private static final int PAIRS = MAX_SITES * MAX_SITES;
        /** Each round sends one unit at least, and there are far fewer units than this. */
        private static final int MAX_ROUNDS = 1000000;
        private static final long UNREACHED = 1L << 60;

        private int sites;
        private final int[] spare = new int[MAX_SITES];
        private final int[] lack = new int[MAX_SITES];
        /** What a unit costs from a site to another one; 0 where none can go. */
        private final long[] cost = new long[PAIRS];
        /** What a unit more costs at a site, by the cheapest way to there, and the site ahead of it on that. */
        private final long[] reach = new long[MAX_SITES];
        private final int[] ahead = new int[MAX_SITES];
        /** The plan itself. */
        final int[] units = new int[PAIRS];

        void make(Stock stock, int item) {
            sites = stock.sites.count;
            for (int site = 0; site < sites; site++) {
                spare[site] = stock.spareAt(item, site);
                lack[site] = stock.lackAt(item, site);
            }
            for (int from = 0; from < sites; from++) {
                for (int to = 0; to < sites; to++) {
                    int at = pair(from, to);
                    units[at] = 0;
                    cost[at] = spare[from] > 0 && lack[to] > 0 ? costOf(at, stock.sites.days[at]) : 0L;
                }
            }
            for (int round = 0; round < MAX_ROUNDS; round++) {
                findWays();
                int end = cheapestEnd();
                if (end == NONE) {
                    return;
                }
                sendAlong(end);
            }
        }

        /**
         * A unit from an earlier pair is worth more than one from each later pair together, and a day more than
         * all of these. So the plan of least cost is, of those of the fewest days, the one that the document
         * wants: two plans differ by rounds of sites that use each pair once at most.
         */
        private static long costOf(int at, int days) {
            return days == 0 ? 0L : ((long) days << PAIRS) - (1L << (PAIRS - 1 - at));
        }

        private void findWays() {
            for (int site = 0; site < sites; site++) {
                reach[site] = spare[site] > 0 ? 0L : UNREACHED;
                ahead[site] = NONE;
            }
            // A way visits each site once at most, so that as many turns as there are sites find them all.
            for (int turn = 0; turn < sites; turn++) {
                for (int from = 0; from < sites; from++) {
                    for (int to = 0; to < sites; to++) {
                        step(from, to);
                    }
                }
            }
        }

        /** A step goes along a pair, or takes back units that are planned the other way. */
        private void step(int from, int to) {
            if (reach[from] == UNREACHED) {
                return;
            }
            int back = pair(to, from);
            long price = cost[pair(from, to)];
            if (price == 0L && units[back] > 0) {
                price = -cost[back];
            }
            if (price != 0L && (reach[to] == UNREACHED || reach[from] + price < reach[to])) {
                reach[to] = reach[from] + price;
                ahead[to] = from;
            }
        }

        private int cheapestEnd() {
            int end = NONE;
            for (int site = 0; site < sites; site++) {
                if (lack[site] > 0 && reach[site] != UNREACHED && (end == NONE || reach[site] < reach[end])) {
                    end = site;
                }
            }
            return end;
        }

        private void sendAlong(int end) {
            int most = lack[end];
            int start = end;
            for (int turn = 0; turn < MAX_SITES && ahead[start] != NONE; turn++) {
                int back = pair(start, ahead[start]);
                if (cost[back] != 0L) {
                    most = Math.min(most, units[back]);
                }
                start = ahead[start];
            }
            most = Math.min(most, spare[start]);
            int site = end;
            for (int turn = 0; turn < MAX_SITES && ahead[site] != NONE; turn++) {
                int back = pair(site, ahead[site]);
                if (cost[back] != 0L) {
                    units[back] -= most;
                } else {
                    units[pair(ahead[site], site)] += most;
                }
                site = ahead[site];
            }
            spare[start] -= most;
            lack[end] -= most;
        }
    }
}
