import java.util.Arrays;
import java.util.NoSuchElementException;

/** A machine that takes coins by weight, width and ring; DOC.md tells its promises by number. */
public final class SlotCoins {
    public static final int NONE = -1;

    private static final int MOST_SORTS = 8;
    private static final int MEASURES = 3;
    private static final int RING = 2;
    private static final int TOP_MEASURE = 99;
    private static final int TOP_DAY = 999;
    private static final int TOP_VALUE = 200;
    private static final int TOP_WEAR = 9;
    private static final int TOP_FLOW = 1000;
    private static final int TOP_AGE = 20;
    private static final int TOP_WARMTH = 10;
    private static final int TOP_REFUSAL = 999;
    private static final int MOST_GATES = 8;
    private static final int MOST_TEXT = 400;
    private static final int FED = 20;
    private static final int TUBE_ROOM = 20;
    private static final int SLIDE_ROOM = 12;
    private static final int MOST_GOODS = 6;
    private static final int TOP_PRICE = 500;
    private static final int TOP_COST = 999;
    private static final int KINDS = 4;
    private static final int MOST_BUYERS = 5;
    private static final int BUYER_COINS = 4;
    private static final int TOP_CHANCE = 9;
    private static final int MOST_TURNS = 3;
    private static final int MOST_MACHINES = 4;
    private static final int TOP_LEFT = 5;
    private static final int MOST_DAYS = 8;
    private static final int TRAYS = 4;
    private static final int TRAY_ROOM = 20;
    private static final int IMAGES = 3;
    private static final int TOP_MADE = 1000;
    private static final int LACK_SUMS = 200;

    /** What a GATE does with a COIN, where it isn't the number of a SORT as which it is TAKEN. */
    private static final int BACK = -1;
    private static final int NEXT = -2;
    private static final int SKIP = -3;

    private static final int RIGHT = 0;
    private static final int DOUBLED = 1;
    private static final int STRING = 2;
    private static final int STUCK = 3;
    private static final int SLUG = 3;

    private final State now = new State();
    private final State[] images = new State[IMAGES];
    private final boolean[] imaged = new boolean[IMAGES];
    private final Tray[] trays = new Tray[TRAYS];
    private final Reader reader = new Reader();
    private final Sieve sieve = new Sieve(now.sorts, now.gates);
    private final Change change = new Change(now.sorts);
    private final Mishaps mishaps = new Mishaps(now, sieve);
    private final Season season = new Season(now, change);
    private final Filler filler = new Filler(now);

    public SlotCoins() {
        for (int i = 0; i < IMAGES; i++) {
            images[i] = new State();
        }
        for (int i = 0; i < TRAYS; i++) {
            trays[i] = new Tray();
        }
    }

    // ---- coins

    public int sort(int value, int from, int to) throws IllegalArgumentException {
        need(within(value, 0, TOP_VALUE));
        need(within(from, 0, TOP_DAY) && within(to, from, TOP_DAY));
        return now.sorts.add(value, from, to);
    }

    public void span(int sort, int measure, int a, int b) throws NoSuchElementException, IllegalArgumentException {
        needSort(sort);
        needThere(within(measure, 0, MEASURES - 1));
        need(within(a, 0, TOP_MEASURE) && within(b, a, TOP_MEASURE));
        now.sorts.low[sort * MEASURES + measure] = a;
        now.sorts.high[sort * MEASURES + measure] = b;
    }

    public int wear(int sort, int wear) throws NoSuchElementException, IllegalArgumentException {
        needSort(sort);
        need(within(wear, 0, TOP_WEAR));
        return swap(now.sorts.wear, sort, wear);
    }

    public int flow(int sort, int flow) throws NoSuchElementException, IllegalArgumentException {
        needSort(sort);
        need(within(flow, 0, TOP_FLOW));
        return swap(now.sorts.flow, sort, flow);
    }

    public int set(int what, int v) throws NoSuchElementException, IllegalArgumentException {
        needThere(within(what, 0, Sorts.SETTINGS - 1));
        switch (what) {
            case Sorts.DAY:
                need(within(v, 0, TOP_DAY));
                break;
            case Sorts.AGE:
                need(within(v, 0, TOP_AGE));
                break;
            case Sorts.WARMTH:
                need(within(v, -TOP_WARMTH, TOP_WARMTH));
                break;
            default:
                need(within(v, 0, TOP_REFUSAL));
                break;
        }
        return swap(now.sorts.setting, what, v);
    }

    public boolean good(int sort) throws NoSuchElementException {
        needSort(sort);
        return now.sorts.isGood(sort);
    }

    // ---- gates

    public int feed(int a, int b, int c, int d, int e) {
        if (!reader.hasRoom()) {
            return NONE;
        }
        reader.append(a);
        reader.append(b);
        reader.append(c);
        reader.append(d);
        reader.append(e);
        return reader.fed;
    }

    public int text(int n) throws IllegalArgumentException {
        need(within(n, 0, reader.fed));
        if (!reader.read(n)) {
            return -10 - reader.faultKind;
        }
        now.gates.copyFrom(reader.draft);
        return now.gates.many;
    }

    public int fault(int what) {
        if (what == 0) {
            return reader.faultKind;
        }
        return what == 1 ? reader.faultPlace : NONE;
    }

    public int gate(int gate, int what) throws NoSuchElementException, IllegalArgumentException {
        needGate(gate);
        need(within(what, 0, 2));
        if (what == 0) {
            return now.gates.measure[gate];
        }
        return what == 1 ? now.gates.low[gate] : now.gates.high[gate];
    }

    public int taken(int weight, int width, int ring) throws IllegalArgumentException {
        need(within(weight, 0, TOP_MEASURE));
        need(within(width, 0, TOP_MEASURE));
        need(within(ring, 0, TOP_MEASURE));
        return sieve.takes(weight, width, ring);
    }

    public long coins(int sort) throws NoSuchElementException {
        needSort(sort);
        return now.sorts.size(sort);
    }

    public long passes(int sort, int as) throws NoSuchElementException {
        needSort(sort);
        needThere(as == NONE || now.sorts.has(as));
        sieve.learn();
        sieve.tell(sort);
        return sieve.tally[as + 1];
    }

    public long wrong(int sort) throws NoSuchElementException {
        needSort(sort);
        sieve.learn();
        return sieve.wrongOf(sort);
    }

    public long loss(int gate, int d, int e) throws NoSuchElementException, IllegalArgumentException {
        needMove(gate, d, e);
        sieve.learn();
        return sieve.lossMoved(gate, d, e);
    }

    public long best(int gate, int what) throws NoSuchElementException, IllegalArgumentException {
        needGate(gate);
        need(within(what, 0, 2));
        sieve.findBest(gate);
        if (what == 0) {
            return sieve.bestD;
        }
        return what == 1 ? sieve.bestE : sieve.bestLoss;
    }

    public boolean move(int gate, int d, int e) throws NoSuchElementException, IllegalArgumentException {
        needMove(gate, d, e);
        int low = Gates.kept(now.gates.low[gate] + d);
        int high = Gates.kept(now.gates.high[gate] + e);
        if (low > high) {
            return false;
        }
        now.gates.low[gate] = low;
        now.gates.high[gate] = high;
        return true;
    }

    // ---- the machine

    public int offer(int price) throws IllegalArgumentException {
        need(within(price, 1, TOP_PRICE));
        return now.addGood(price);
    }

    public int price(int good, int price) throws NoSuchElementException, IllegalArgumentException {
        needGood(good);
        need(within(price, 1, TOP_PRICE));
        return swap(now.price, good, price);
    }

    public int load(int tube, int sort, int many) throws NoSuchElementException, IllegalArgumentException {
        needSort(tube);
        needSort(sort);
        need(within(many, 1, TUBE_ROOM));
        if (!now.till.hasRoom(tube, many)) {
            return NONE;
        }
        for (int i = 0; i < many; i++) {
            now.till.loadOne(tube, sort);
        }
        return now.till.height[tube];
    }

    public int put(int sort, int weight, int width, int ring, int way)
            throws NoSuchElementException, IllegalArgumentException {
        needSort(sort);
        need(now.sorts.isCoin(sort, weight, width, ring));
        need(within(way, RIGHT, STUCK));
        if (way == STUCK) {
            now.till.bag[sort]++;
            return sort;
        }
        int as = sieve.takes(weight, width, ring);
        if (as == NONE || now.till.slideMany >= SLIDE_ROOM) {
            return NONE;
        }
        int times = way == DOUBLED ? 2 : 1;
        now.till.slideIn(way == STRING ? NONE : sort, as, times, times * now.sorts.value[as]);
        return as;
    }

    public int credit() {
        return now.till.allCredit();
    }

    public int sale(int good) throws NoSuchElementException {
        needGood(good);
        int above = now.till.allCredit() - now.price[good];
        if (above < 0) {
            return NONE;
        }
        change.spread(now.till.height, 0, above);
        if (!change.hasFor(above)) {
            return NONE;
        }
        now.till.givenMany = 0;
        for (int k = 0; k < now.sorts.many; k++) {
            now.till.giveFrom(k, change.share(above, k));
        }
        now.till.slideToTubes();
        return now.till.givenMany;
    }

    public int refund() {
        now.till.slideBack();
        return now.till.givenMany;
    }

    public int given(int i) {
        return within(i, 0, now.till.givenMany - 1) ? now.till.given[i] : NONE;
    }

    public int tube(int tube, int what) throws NoSuchElementException, IllegalArgumentException {
        needSort(tube);
        need(within(what, 0, 2));
        if (what == 0) {
            return now.till.height[tube];
        }
        return what == 1 ? now.till.strangers(tube) : now.till.top(tube);
    }

    public int bag(int sort) throws NoSuchElementException {
        needSort(sort);
        return now.till.bag[sort];
    }

    public int empty(int tube) throws NoSuchElementException {
        needSort(tube);
        int many = now.till.height[tube];
        now.till.tubeToBag(tube);
        return many;
    }

    public int lacks(int good, int what) throws NoSuchElementException, IllegalArgumentException {
        needGood(good);
        need(within(what, 0, 2));
        change.spread(now.till.height, 0, LACK_SUMS);
        if (what == 0) {
            return change.lackMany(LACK_SUMS);
        }
        if (what == 2) {
            return change.lackRow(LACK_SUMS);
        }
        int least = change.lackLeast(LACK_SUMS);
        return least == NONE ? NONE : now.price[good] + least;
    }

    public int made(int p) throws IllegalArgumentException {
        need(within(p, 1, TOP_MADE));
        return change.madeFrom(p);
    }

    // ---- wheels and mishaps

    public int wheel(int sort, int what) throws NoSuchElementException, IllegalArgumentException {
        needSort(sort);
        need(within(what, 0, 3));
        switch (what) {
            case 0:
                return now.till.wheel[sort];
            case 1:
                return now.till.due(sort);
            case 2:
                return now.till.there(sort);
            default:
                return now.till.odd(sort);
        }
    }

    public int cost(int kind, int c) throws NoSuchElementException, IllegalArgumentException {
        needThere(within(kind, 0, KINDS - 1));
        need(within(c, 0, TOP_COST));
        return swap(now.till.cost, kind, c);
    }

    public int explain(int what) throws IllegalArgumentException {
        need(within(what, 0, 2));
        mishaps.weigh();
        if (what == 0) {
            return mishaps.leastCost;
        }
        return what == 1 ? mishaps.fewestSlugs : mishaps.mostSlugs;
    }

    // ---- buyers, rounds

    public int buyer(int good, int a, int b, int c, int d, int chance)
            throws NoSuchElementException, IllegalArgumentException {
        needGood(good);
        needSort(a);
        int coins = 1;
        if (b != NONE) {
            needSort(b);
            coins = 2;
            if (c != NONE) {
                needSort(c);
                coins = 3;
                if (d != NONE) {
                    needSort(d);
                    coins = 4;
                }
            }
        }
        need(within(chance, 1, TOP_CHANCE));
        int number = now.addBuyer(good, coins, chance);
        if (number != NONE) {
            now.tellCoins(number, a, b, c, d);
        }
        return number;
    }

    public long most(int n) throws IllegalArgumentException {
        need(within(n, 1, MOST_TURNS));
        return season.mostOf(n);
    }

    public int serve(int n, int buyer) throws NoSuchElementException, IllegalArgumentException {
        needThere(within(buyer, 0, now.buyers - 1));
        need(within(n, 1, MOST_TURNS));
        return season.advice(n, buyer);
    }

    public int machine(int left, int full) throws IllegalArgumentException {
        need(within(left, 0, TOP_LEFT));
        need(within(full, 1, TOP_LEFT));
        return now.addMachine(left, full);
    }

    public int rounds(int h, int day) throws IllegalArgumentException {
        need(within(h, 1, MOST_DAYS));
        if (now.machines == 0) {
            return NONE;
        }
        if (day == NONE) {
            return filler.leastDry(h);
        }
        return within(day, 0, h - 1) ? filler.filledOn(h, day) : NONE;
    }

    // ---- trays, images

    public void tray(int tray, int sort, int many) throws NoSuchElementException, IllegalArgumentException {
        needThere(within(tray, 0, TRAYS - 1));
        need(within(sort, 0, Tray.LONGS));
        need(within(many, 0, TRAY_ROOM));
        trays[tray].lay(sort, many);
    }

    public long write(int tray, int place, long v)
            throws NoSuchElementException, IllegalStateException, IndexOutOfBoundsException {
        Tray to = trayAt(tray);
        if (!within(place, 0, to.many - 1)) {
            throw new IndexOutOfBoundsException("no such place");
        }
        to.cell[place] = to.cut(v);
        return to.cell[place];
    }

    public int pour(int tray, int tube)
            throws NoSuchElementException, IllegalStateException, IllegalArgumentException {
        needSort(tube);
        Tray from = trayAt(tray);
        need(from.holdsSorts(now.sorts.many));
        if (!now.till.hasRoom(tube, from.many)) {
            return NONE;
        }
        for (int i = 0; i < from.many; i++) {
            now.till.loadOne(tube, (int) from.cell[i]);
        }
        return now.till.height[tube];
    }

    public void image(int i) throws NoSuchElementException {
        needThere(within(i, 0, IMAGES - 1));
        images[i].copyFrom(now);
        imaged[i] = true;
    }

    public void restore(int i) throws NoSuchElementException, IllegalStateException {
        needThere(within(i, 0, IMAGES - 1));
        if (!imaged[i]) {
            throw new IllegalStateException("no such image was made");
        }
        now.copyFrom(images[i]);
    }

    public int count(int what) {
        switch (what) {
            case 0:
                return now.sorts.many;
            case 1:
                return now.gates.many;
            case 2:
                return now.goods;
            case 3:
                return now.till.slideMany;
            case 4:
                return now.buyers;
            case 5:
                return now.machines;
            case 6:
                return reader.fed;
            case 7:
                return now.till.givenMany;
            default:
                return NONE;
        }
    }

    // ---- what calls must be given

    private static boolean within(long v, long from, long to) {
        return v >= from && v <= to;
    }

    private static void need(boolean holds) {
        if (!holds) {
            throw new IllegalArgumentException("a number out of its bounds");
        }
    }

    private static void needThere(boolean holds) {
        if (!holds) {
            throw new NoSuchElementException("no such one");
        }
    }

    private void needSort(int sort) {
        needThere(now.sorts.has(sort));
    }

    private void needGate(int gate) {
        needThere(within(gate, 0, now.gates.many - 1));
    }

    private void needGood(int good) {
        needThere(within(good, 0, now.goods - 1));
    }

    private void needMove(int gate, int d, int e) {
        needGate(gate);
        need(within(d, -TOP_MEASURE, TOP_MEASURE));
        need(within(e, -TOP_MEASURE, TOP_MEASURE));
    }

    private Tray trayAt(int tray) {
        needThere(within(tray, 0, TRAYS - 1));
        if (trays[tray].kind == NONE) {
            throw new IllegalStateException("the tray is missing");
        }
        return trays[tray];
    }

    private static int swap(int[] row, int place, int v) {
        int was = row[place];
        row[place] = v;
        return was;
    }

    private static void copyRow(int[] from, int[] to) {
        System.arraycopy(from, 0, to, 0, Math.min(from.length, to.length));
    }

    /** SORTS, and what is told of the machine that bears on them. */
    private static final class Sorts {
        static final int DAY = 0;
        static final int AGE = 1;
        static final int WARMTH = 2;
        static final int REFUSAL = 3;
        static final int SETTINGS = 4;

        int many;
        final int[] setting = {0, 0, 0, 10};
        final int[] value = new int[MOST_SORTS];
        final int[] first = new int[MOST_SORTS];
        final int[] last = new int[MOST_SORTS];
        final int[] low = new int[MOST_SORTS * MEASURES];
        final int[] high = new int[MOST_SORTS * MEASURES];
        final int[] wear = new int[MOST_SORTS];
        final int[] flow = new int[MOST_SORTS];

        int add(int worth, int from, int to) {
            if (many >= MOST_SORTS) {
                return NONE;
            }
            value[many] = worth;
            first[many] = from;
            last[many] = to;
            many++;
            return many - 1;
        }

        boolean has(int k) {
            return k >= 0 && k < many;
        }

        boolean isGood(int k) {
            return has(k) && value[k] > 0 && within(setting[DAY], first[k], last[k]);
        }

        int worth(int k) {
            return isGood(k) ? value[k] : 0;
        }

        int lowOf(int k, int measure) {
            int a = low[k * MEASURES + measure];
            return measure == 0 ? Math.max(0, a - worn(k)) : a;
        }

        int highOf(int k, int measure) {
            int b = high[k * MEASURES + measure];
            return measure == 0 ? Math.max(0, b - worn(k)) : b;
        }

        int worn(int k) {
            return wear[k] * setting[AGE] / 10;
        }

        long size(int k) {
            long all = 1;
            for (int m = 0; m < MEASURES; m++) {
                all *= highOf(k, m) - lowOf(k, m) + 1;
            }
            return all;
        }

        boolean isCoin(int k, int weight, int width, int ring) {
            return within(weight, lowOf(k, 0), highOf(k, 0))
                && within(width, lowOf(k, 1), highOf(k, 1))
                && within(ring, lowOf(k, RING), highOf(k, RING));
        }

        void copyFrom(Sorts s) {
            many = s.many;
            copyRow(s.setting, setting);
            copyRow(s.value, value);
            copyRow(s.first, first);
            copyRow(s.last, last);
            copyRow(s.low, low);
            copyRow(s.high, high);
            copyRow(s.wear, wear);
            copyRow(s.flow, flow);
        }
    }

    /** GATES in a row; a goal is the number of a SORT, or BACK, NEXT, SKIP. */
    private static final class Gates {
        int many;
        final int[] measure = new int[MOST_GATES];
        final int[] low = new int[MOST_GATES];
        final int[] high = new int[MOST_GATES];
        final int[] yes = new int[MOST_GATES];
        final int[] no = new int[MOST_GATES];

        static int kept(int n) {
            return Math.max(0, Math.min(TOP_MEASURE, n));
        }

        void copyFrom(Gates g) {
            many = g.many;
            copyRow(g.measure, measure);
            copyRow(g.low, low);
            copyRow(g.high, high);
            copyRow(g.yes, yes);
            copyRow(g.no, no);
        }
    }

    /** TUBES, BAG, WHEELS, THE SLIDE, what was GIVEN, and the COSTS of MISHAPS. */
    private static final class Till {
        final int[] coin = new int[MOST_SORTS * TUBE_ROOM];
        final int[] height = new int[MOST_SORTS];
        final int[] bag = new int[MOST_SORTS];
        final int[] loaded = new int[MOST_SORTS];
        final int[] wheel = new int[MOST_SORTS];
        final int[] cost = {1, 1, 1, 1};
        int slideMany;
        final int[] slideCoin = new int[SLIDE_ROOM];
        final int[] slideAs = new int[SLIDE_ROOM];
        final int[] slideRise = new int[SLIDE_ROOM];
        final int[] slideCredit = new int[SLIDE_ROOM];
        int givenMany;
        final int[] given = new int[MOST_SORTS * TUBE_ROOM];

        boolean hasRoom(int tube, int many) {
            return height[tube] + many <= TUBE_ROOM;
        }

        void loadOne(int tube, int sort) {
            layOn(tube, sort);
            loaded[tube]++;
        }

        void layOn(int tube, int sort) {
            if (height[tube] >= TUBE_ROOM) {
                bag[sort]++;
                return;
            }
            coin[tube * TUBE_ROOM + height[tube]] = sort;
            height[tube]++;
        }

        int top(int tube) {
            return height[tube] == 0 ? NONE : coin[tube * TUBE_ROOM + height[tube] - 1];
        }

        int strangers(int tube) {
            return height[tube] - coinsIn(tube, tube);
        }

        int coinsIn(int tube, int sort) {
            int same = 0;
            for (int i = 0; i < height[tube]; i++) {
                if (coin[tube * TUBE_ROOM + i] == sort) {
                    same++;
                }
            }
            return same;
        }

        void tubeToBag(int tube) {
            for (int i = 0; i < height[tube]; i++) {
                bag[coin[tube * TUBE_ROOM + i]]++;
            }
            height[tube] = 0;
        }

        /** A coin that isn't there (NONE) is one by a string: it has CREDIT and a WHEEL's rise all the same. */
        void slideIn(int sort, int as, int rise, int worth) {
            slideCoin[slideMany] = sort;
            slideAs[slideMany] = as;
            slideRise[slideMany] = rise;
            slideCredit[slideMany] = worth;
            slideMany++;
            wheel[as] += rise;
        }

        int allCredit() {
            int sum = 0;
            for (int i = 0; i < slideMany; i++) {
                sum += slideCredit[i];
            }
            return sum;
        }

        void giveFrom(int tube, int many) {
            for (int i = 0; i < many && height[tube] > 0; i++) {
                giveOut(top(tube));
                height[tube]--;
                wheel[tube]--;
            }
        }

        void giveOut(int sort) {
            if (givenMany < given.length) {
                given[givenMany] = sort;
                givenMany++;
            }
        }

        void slideToTubes() {
            for (int i = 0; i < slideMany; i++) {
                if (slideCoin[i] != NONE) {
                    layOn(slideAs[i], slideCoin[i]);
                }
            }
            slideMany = 0;
        }

        void slideBack() {
            givenMany = 0;
            for (int i = 0; i < slideMany; i++) {
                wheel[slideAs[i]] -= slideRise[i];
                if (slideCoin[i] != NONE) {
                    giveOut(slideCoin[i]);
                }
            }
            slideMany = 0;
        }

        int due(int sort) {
            return loaded[sort] + wheel[sort];
        }

        int there(int sort) {
            int sum = bag[sort];
            for (int tube = 0; tube < MOST_SORTS; tube++) {
                sum += coinsIn(tube, sort);
            }
            return sum;
        }

        int odd(int sort) {
            return there(sort) - due(sort);
        }

        void copyFrom(Till t) {
            copyRow(t.coin, coin);
            copyRow(t.height, height);
            copyRow(t.bag, bag);
            copyRow(t.loaded, loaded);
            copyRow(t.wheel, wheel);
            copyRow(t.cost, cost);
            slideMany = t.slideMany;
            copyRow(t.slideCoin, slideCoin);
            copyRow(t.slideAs, slideAs);
            copyRow(t.slideRise, slideRise);
            copyRow(t.slideCredit, slideCredit);
            givenMany = t.givenMany;
            copyRow(t.given, given);
        }
    }

    /** All that an IMAGE keeps; GOODS, BUYERS and MACHINES stand here themselves. */
    private static final class State {
        final Sorts sorts = new Sorts();
        final Gates gates = new Gates();
        final Till till = new Till();
        int goods;
        final int[] price = new int[MOST_GOODS];
        int buyers;
        final int[] wish = new int[MOST_BUYERS];
        final int[] coin = new int[MOST_BUYERS * BUYER_COINS];
        final int[] coins = new int[MOST_BUYERS];
        final int[] chance = new int[MOST_BUYERS];
        int machines;
        final int[] left = new int[MOST_MACHINES];
        final int[] full = new int[MOST_MACHINES];

        int addGood(int worth) {
            if (goods >= MOST_GOODS) {
                return NONE;
            }
            price[goods] = worth;
            goods++;
            return goods - 1;
        }

        int addBuyer(int good, int many, int often) {
            if (buyers >= MOST_BUYERS) {
                return NONE;
            }
            wish[buyers] = good;
            coins[buyers] = many;
            chance[buyers] = often;
            buyers++;
            return buyers - 1;
        }

        /** Stands alone because a method takes only seven parameters. */
        void tellCoins(int buyer, int a, int b, int c, int d) {
            int at = buyer * BUYER_COINS;
            coin[at] = a;
            coin[at + 1] = b;
            coin[at + 2] = c;
            coin[at + 3] = d;
        }

        int addMachine(int has, int most) {
            if (machines >= MOST_MACHINES) {
                return NONE;
            }
            left[machines] = has;
            full[machines] = most;
            machines++;
            return machines - 1;
        }

        void copyFrom(State s) {
            sorts.copyFrom(s.sorts);
            gates.copyFrom(s.gates);
            till.copyFrom(s.till);
            goods = s.goods;
            copyRow(s.price, price);
            buyers = s.buyers;
            copyRow(s.wish, wish);
            copyRow(s.coin, coin);
            copyRow(s.coins, coins);
            copyRow(s.chance, chance);
            machines = s.machines;
            copyRow(s.left, left);
            copyRow(s.full, full);
        }
    }

    /** The tape, and the TEXT read from it up to its first FAULT. */
    private static final class Reader {
        private static final int END = 0;
        private static final int WORD = 1;
        private static final int NUMBER = 2;
        private static final int SIGN = 3;
        private static final int BAD = 4;

        private static final int CANT_BEGIN = 1;
        private static final int CANT_STAND = 2;
        private static final int TAKES_NONE = 3;
        private static final int BACKWARD = 4;
        private static final int TOO_MANY = 5;

        final byte[] tape = new byte[MOST_TEXT];
        int fed;
        int faultKind;
        int faultPlace = NONE;
        final Gates draft = new Gates();
        int length;
        int token;
        int start;
        int end;
        int number;

        boolean hasRoom() {
            return fed + FED <= MOST_TEXT;
        }

        void append(int four) {
            for (int shift = 24; shift >= 0 && fed < MOST_TEXT; shift -= 8) {
                tape[fed] = (byte) (four >> shift);
                fed++;
            }
        }

        boolean read(int n) {
            length = Math.min(n, fed);
            fed = 0;
            end = 0;
            faultKind = 0;
            faultPlace = NONE;
            draft.many = 0;
            advance();
            for (int g = 0; g <= MOST_GATES && token != END; g++) {
                if (!readGate()) {
                    return false;
                }
            }
            return true;
        }

        boolean readGate() {
            if (!isWord("gate")) {
                return blame(CANT_STAND);
            }
            if (draft.many >= MOST_GATES) {
                return blame(TOO_MANY);
            }
            int g = draft.many;
            advance();
            if (!readMeasure(g) || !readBounds(g)) {
                return false;
            }
            if (!passWord("yes") || !readGoal(draft.yes, g)) {
                return false;
            }
            if (!passWord("no") || !readGoal(draft.no, g)) {
                return false;
            }
            if (token != SIGN) {
                return blame(CANT_STAND);
            }
            draft.many++;
            advance();
            return true;
        }

        boolean readMeasure(int g) {
            if (isWord("weight")) {
                draft.measure[g] = 0;
            } else if (isWord("width")) {
                draft.measure[g] = 1;
            } else if (isWord("ring")) {
                draft.measure[g] = RING;
            } else {
                return blame(CANT_STAND);
            }
            advance();
            return true;
        }

        boolean readBounds(int g) {
            if (token != NUMBER) {
                return blame(CANT_STAND);
            }
            draft.low[g] = number;
            advance();
            if (token != NUMBER) {
                return blame(CANT_STAND);
            }
            if (number < draft.low[g]) {
                return blame(BACKWARD);
            }
            draft.high[g] = number;
            advance();
            return true;
        }

        boolean readGoal(int[] goals, int g) {
            if (isWord("take")) {
                advance();
                if (token != NUMBER) {
                    return blame(CANT_STAND);
                }
                if (number >= MOST_SORTS) {
                    return blame(TAKES_NONE);
                }
                goals[g] = number;
            } else if (isWord("next")) {
                goals[g] = NEXT;
            } else if (isWord("skip")) {
                goals[g] = SKIP;
            } else if (isWord("back")) {
                goals[g] = BACK;
            } else {
                return blame(CANT_STAND);
            }
            advance();
            return true;
        }

        boolean passWord(String word) {
            if (!isWord(word)) {
                return blame(CANT_STAND);
            }
            advance();
            return true;
        }

        /** A TOKEN that can't even begin is told as that, whatever else was awaited there. */
        boolean blame(int kind) {
            faultKind = token == BAD ? CANT_BEGIN : kind;
            faultPlace = start;
            return false;
        }

        boolean isWord(String word) {
            if (token != WORD || end - start != word.length()) {
                return false;
            }
            for (int i = 0; i < word.length(); i++) {
                if (tape[start + i] != word.charAt(i)) {
                    return false;
                }
            }
            return true;
        }

        void advance() {
            start = end;
            while (start < length && (tape[start] == 10 || tape[start] == 32)) {
                start++;
            }
            end = start;
            if (start >= length) {
                token = END;
            } else if (isLetter(start)) {
                token = WORD;
                while (end < length && isLetter(end)) {
                    end++;
                }
            } else if (isDigit(start)) {
                readNumber();
            } else {
                token = tape[start] == ';' ? SIGN : BAD;
                end++;
            }
        }

        void readNumber() {
            number = 0;
            while (end < length && isDigit(end)) {
                number = number * 10 % 1000 + tape[end] - '0';
                end++;
            }
            token = end - start > 2 ? BAD : NUMBER;
        }

        boolean isLetter(int place) {
            return tape[place] >= 'a' && tape[place] <= 'z';
        }

        boolean isDigit(int place) {
            return tape[place] >= '0' && tape[place] <= '9';
        }
    }

    /**
     * What the GATES do with COINS. Whether a COIN is from one N to the other, told for all GATES at once, is a
     * set of bits, and where it goes hangs on that set alone: so COINS are counted by whole stretches of each
     * measure with the same bits.
     */
    private static final class Sieve {
        private static final int REACH = 4;
        private static final long MILLION = 1000000L;
        /** Each GATE ends at most two stretches of its measure. */
        private static final int STRETCHES = 2 * MOST_GATES + 1;

        final Sorts sorts;
        final Gates gates;
        /** How many COINS were refused, then how many were TAKEN AS 0, 1, and so on. */
        final long[] tally = new long[MOST_SORTS + 1];
        final int[] outcome = new int[1 << MOST_GATES];
        final int[] stretches = new int[MEASURES];
        final int[] bits = new int[MEASURES * STRETCHES];
        final int[] size = new int[MEASURES * STRETCHES];
        int bestD;
        int bestE;
        long bestLoss;

        Sieve(Sorts sorts, Gates gates) {
            this.sorts = sorts;
            this.gates = gates;
        }

        int takes(int weight, int width, int ring) {
            int set = 0;
            for (int g = 0; g < gates.many; g++) {
                int m = gates.measure[g];
                int v = m == 0 ? weight : m == 1 ? width : ring;
                if (v >= lowAt(g) && v <= highAt(g)) {
                    set |= 1 << g;
                }
            }
            return goalOf(set);
        }

        private int goalOf(int set) {
            int g = 0;
            while (g < gates.many) {
                int goal = (set >> g & 1) == 1 ? gates.yes[g] : gates.no[g];
                if (goal != NEXT && goal != SKIP) {
                    return sorts.isGood(goal) ? goal : NONE;
                }
                g += goal == NEXT ? 1 : 2;
            }
            return NONE;
        }

        /** By the COIN's own ring, not by what is read: at 0 and 99 all that is cut off there belongs to it. */
        private int lowAt(int g) {
            int low = gates.low[g];
            return gates.measure[g] != RING || low <= 0 ? low : low - sorts.setting[Sorts.WARMTH];
        }

        private int highAt(int g) {
            int high = gates.high[g];
            return gates.measure[g] != RING || high >= TOP_MEASURE ? high : high - sorts.setting[Sorts.WARMTH];
        }

        /** Must be called ahead of tell(), but not again while only bounds of GATES change. */
        void learn() {
            for (int set = 0; set < 1 << gates.many; set++) {
                outcome[set] = goalOf(set);
            }
        }

        void tell(int sort) {
            Arrays.fill(tally, 0L);
            for (int m = 0; m < MEASURES; m++) {
                stretch(m, sorts.lowOf(sort, m), sorts.highOf(sort, m));
            }
            for (int i = 0; i < stretches[0]; i++) {
                for (int j = STRETCHES; j < STRETCHES + stretches[1]; j++) {
                    addRings(bits[i] | bits[j], (long) size[i] * size[j]);
                }
            }
        }

        private void addRings(int set, long many) {
            int from = RING * STRETCHES;
            for (int r = from; r < from + stretches[RING]; r++) {
                tally[outcome[set | bits[r]] + 1] += many * size[r];
            }
        }

        private void stretch(int measure, int from, int to) {
            int many = 0;
            int start = from;
            while (start <= to && many < STRETCHES) {
                int set = 0;
                int end = to;
                for (int g = 0; g < gates.many; g++) {
                    if (gates.measure[g] == measure) {
                        int low = lowAt(g);
                        int high = highAt(g);
                        if (start < low) {
                            end = Math.min(end, low - 1);
                        } else if (start <= high) {
                            end = Math.min(end, high);
                            set |= 1 << g;
                        }
                    }
                }
                bits[measure * STRETCHES + many] = set;
                size[measure * STRETCHES + many] = end - start + 1;
                many++;
                start = end + 1;
            }
            stretches[measure] = many;
        }

        long wrongOf(int sort) {
            tell(sort);
            int own = sorts.worth(sort);
            long sum = sorts.isGood(sort) ? tally[0] * sorts.setting[Sorts.REFUSAL] : 0;
            for (int k = 0; k < sorts.many; k++) {
                if (k != sort && tally[k + 1] > 0) {
                    sum += tally[k + 1] * Math.max(0, sorts.worth(k) - own);
                }
            }
            long all = sorts.size(sort);
            return all > 0 ? MILLION * sum / all : 0;
        }

        long lossMoved(int gate, int d, int e) {
            int low = gates.low[gate];
            int high = gates.high[gate];
            gates.low[gate] = Gates.kept(low + d);
            gates.high[gate] = Gates.kept(high + e);
            long sum = 0;
            for (int k = 0; k < sorts.many; k++) {
                if (sorts.flow[k] > 0) {
                    sum += sorts.flow[k] * wrongOf(k);
                }
            }
            gates.low[gate] = low;
            gates.high[gate] = high;
            return sum;
        }

        /** Goes by rising d, then e, so that of like moves the first one is kept. */
        void findBest(int gate) {
            learn();
            bestD = 0;
            bestE = 0;
            bestLoss = lossMoved(gate, 0, 0);
            for (int d = -REACH; d <= REACH; d++) {
                for (int e = -REACH; e <= REACH; e++) {
                    long moved = lossMoved(gate, d, e);
                    boolean nearer = Math.abs(d) + Math.abs(e) < Math.abs(bestD) + Math.abs(bestE);
                    if (moved < bestLoss || moved == bestLoss && nearer) {
                        bestD = d;
                        bestE = e;
                        bestLoss = moved;
                    }
                }
            }
        }
    }

    /**
     * CHANGE of all sums at once. Rows of coins are compared by one number, which grows by COIN for each
     * coin and falls by a digit to the base of 32 for its SORT, the highest digit for SORT 0: so the least
     * number is the fewest coins, and of such the most of SORT 0, then of 1, and so on.
     */
    private static final class Change {
        private static final long COIN = 1L << 40;
        private static final long FAR = 1L << 60;
        private static final int DIGIT = 5;
        private static final int TOP_SUM = 2 * TOP_VALUE * SLIDE_ROOM;

        final Sorts sorts;
        final long[] least = new long[TOP_SUM + 1];
        final boolean[] priced = new boolean[TOP_MADE + 1];

        Change(Sorts sorts) {
            this.sorts = sorts;
        }

        void spread(int[] height, int at, int wanted) {
            int top = Math.max(0, Math.min(wanted, TOP_SUM));
            for (int sum = 0; sum <= top; sum++) {
                least[sum] = FAR;
            }
            least[0] = 0;
            int reached = 0;
            for (int k = 0; k < sorts.many; k++) {
                if (sorts.isGood(k)) {
                    reached = spreadSort(k, height[at + k], reached, top);
                }
            }
        }

        /** Bundles of 1, 2, 4 .. coins and a rest make every number of coins, with few passes over the sums. */
        private int spreadSort(int k, int many, int before, int top) {
            int reached = before;
            int rest = many;
            for (int bundle = 1; bundle <= TUBE_ROOM && rest > 0; bundle *= 2) {
                int some = Math.min(bundle, rest);
                rest -= some;
                int value = some * sorts.value[k];
                long weight = some * (COIN - digit(k));
                reached = Math.min(top, reached + value);
                for (int sum = reached; sum >= value; sum--) {
                    least[sum] = Math.min(least[sum], least[sum - value] + weight);
                }
            }
            return reached;
        }

        private static long digit(int k) {
            return 1L << DIGIT * (MOST_SORTS - 1 - k);
        }

        boolean hasFor(int sum) {
            return sum >= 0 && sum <= TOP_SUM && least[sum] < FAR;
        }

        int share(int sum, int k) {
            if (!hasFor(sum)) {
                return 0;
            }
            return shareOf(least[sum], k);
        }

        static int shareOf(long row, int k) {
            long digits = -row & COIN - 1;
            return (int) (digits >> DIGIT * (MOST_SORTS - 1 - k)) & 31;
        }

        int lackMany(int top) {
            int many = 0;
            for (int sum = 0; sum <= top; sum++) {
                if (!hasFor(sum)) {
                    many++;
                }
            }
            return many;
        }

        int lackLeast(int top) {
            for (int sum = 0; sum <= top; sum++) {
                if (!hasFor(sum)) {
                    return sum;
                }
            }
            return NONE;
        }

        int lackRow(int top) {
            int longest = 0;
            int row = 0;
            for (int sum = 0; sum <= top; sum++) {
                row = hasFor(sum) ? 0 : row + 1;
                longest = Math.max(longest, row);
            }
            return longest;
        }

        int madeFrom(int p) {
            for (int sum = 1; sum <= TOP_MADE; sum++) {
                priced[sum] = isMade(sum);
                if (sum >= p && priced[sum]) {
                    return sum;
                }
            }
            return NONE;
        }

        private boolean isMade(int sum) {
            for (int k = 0; k < sorts.many; k++) {
                int rest = sum - sorts.value[k];
                if (sorts.isGood(k) && rest >= 0 && (rest == 0 || priced[rest])) {
                    return true;
                }
            }
            return false;
        }
    }

    /** The MISHAPS that explain: each slug stands for a stuck coin and a missing one together. */
    private static final class Mishaps {
        final State state;
        final Sieve sieve;
        final int[] odd = new int[MOST_SORTS];
        final int[] passesAs = new int[MOST_SORTS];
        int leastCost;
        int fewestSlugs;
        int mostSlugs;

        Mishaps(State state, Sieve sieve) {
            this.state = state;
            this.sieve = sieve;
        }

        void weigh() {
            int more = 0;
            int less = 0;
            for (int k = 0; k < state.sorts.many; k++) {
                odd[k] = state.till.odd(k);
                more += Math.max(0, odd[k]);
                less += Math.max(0, -odd[k]);
            }
            int[] cost = state.till.cost;
            int missing = Math.min(cost[DOUBLED], cost[STRING]);
            int dearer = cost[SLUG] - cost[0] - missing;
            int most = more == 0 || less == 0 ? 0 : mostPairs();
            fewestSlugs = dearer < 0 ? most : 0;
            mostSlugs = dearer <= 0 ? most : 0;
            leastCost = more * cost[0] + less * missing + fewestSlugs * dearer;
        }

        /** The most slugs are the least cut: for each set of SORTS, those outside it and what those inside pass as. */
        private int mostPairs() {
            sieve.learn();
            for (int i = 0; i < state.sorts.many; i++) {
                passesAs[i] = odd[i] > 0 ? passingSet(i) : 0;
            }
            int least = cutOf(0);
            for (int set = 1; set < 1 << state.sorts.many; set++) {
                least = Math.min(least, cutOf(set));
            }
            return least;
        }

        private int passingSet(int sort) {
            sieve.tell(sort);
            int set = 0;
            for (int k = 0; k < state.sorts.many; k++) {
                if (sieve.tally[k + 1] > 0) {
                    set |= 1 << k;
                }
            }
            return set;
        }

        private int cutOf(int set) {
            int cut = 0;
            int passed = 0;
            for (int i = 0; i < state.sorts.many; i++) {
                if ((set >> i & 1) == 1) {
                    passed |= passesAs[i];
                } else {
                    cut += Math.max(0, odd[i]);
                }
            }
            for (int k = 0; k < state.sorts.many; k++) {
                if ((passed >> k & 1) == 1) {
                    cut += Math.max(0, -odd[k]);
                }
            }
            return cut;
        }
    }

    /** Which BUYERS to serve; TURN t has its own rows, as up to three SALES stand open at once. */
    private static final class Season {
        private static final long CANT = -1L;

        final State state;
        final Sorts sorts;
        final Change change;
        final int[] height = new int[(MOST_TURNS + 1) * MOST_SORTS];
        final int[] above = new int[MOST_BUYERS];
        final long[] row = new long[MOST_TURNS * MOST_BUYERS];
        /** By turn and how many BUYERS still come: the most SALES in the mean, times chances. */
        final long[] mean = new long[(MOST_TURNS + 1) * (MOST_TURNS + 1)];
        /** The same behind a SALE to each BUYER. */
        final long[] served = new long[MOST_TURNS * MOST_BUYERS * MOST_TURNS];

        Season(State state, Change change) {
            this.state = state;
            this.sorts = state.sorts;
            this.change = change;
        }

        long mostOf(int n) {
            begin();
            look(0, n);
            return mean[n];
        }

        int advice(int n, int buyer) {
            begin();
            look(0, n - 1);
            long without = mean[n - 1];
            findChange(0);
            if (row[buyer] == CANT) {
                return NONE;
            }
            sell(0, buyer);
            look(1, n - 1);
            long with = mean[MOST_TURNS + 1 + n - 1] + power(n - 1);
            return with >= without ? 1 : 0;
        }

        private void begin() {
            for (int k = 0; k < MOST_SORTS; k++) {
                height[k] = state.till.height[k];
            }
            for (int b = 0; b < state.buyers; b++) {
                above[b] = paid(b) - state.price[state.wish[b]];
            }
        }

        /** Below any PRICE if one of the coins isn't GOOD. */
        private int paid(int buyer) {
            int sum = 0;
            for (int i = 0; i < state.coins[buyer]; i++) {
                int k = state.coin[buyer * BUYER_COINS + i];
                if (!sorts.isGood(k)) {
                    return 0;
                }
                sum += sorts.value[k];
            }
            return sum;
        }

        /** Fills mean for this turn and 0 to n BUYERS to come; turn and n together never pass MOST_TURNS. */
        private void look(int turn, int n) {
            int at = turn * (MOST_TURNS + 1);
            mean[at] = 0;
            if (n <= 0 || turn >= MOST_TURNS) {
                return;
            }
            findChange(turn);
            for (int b = 0; b < state.buyers; b++) {
                if (row[turn * MOST_BUYERS + b] != CANT) {
                    sell(turn, b);
                    look(turn + 1, n - 1);
                    keepServed(turn, b, n);
                }
            }
            for (int m = 1; m <= n; m++) {
                mean[at + m] = meanOf(turn, m);
            }
        }

        private void keepServed(int turn, int buyer, int n) {
            int from = (turn + 1) * (MOST_TURNS + 1);
            int to = (turn * MOST_BUYERS + buyer) * MOST_TURNS;
            for (int m = 0; m < n; m++) {
                served[to + m] = mean[from + m];
            }
        }

        private long meanOf(int turn, int m) {
            long without = mean[turn * (MOST_TURNS + 1) + m - 1];
            long one = power(m - 1);
            long sum = 0;
            for (int b = 0; b < state.buyers; b++) {
                long most = without;
                int at = turn * MOST_BUYERS + b;
                if (row[at] != CANT) {
                    most = Math.max(most, one + served[at * MOST_TURNS + m - 1]);
                }
                sum += state.chance[b] * most;
            }
            return sum;
        }

        private long power(int n) {
            int all = 0;
            for (int b = 0; b < state.buyers; b++) {
                all += state.chance[b];
            }
            long product = 1;
            for (int i = 0; i < n; i++) {
                product *= all;
            }
            return product;
        }

        /** CHANGE for every BUYER of this turn: kept, as the next turn spreads other TUBES. */
        private void findChange(int turn) {
            int top = 0;
            for (int b = 0; b < state.buyers; b++) {
                top = Math.max(top, above[b]);
            }
            change.spread(height, turn * MOST_SORTS, top);
            for (int b = 0; b < state.buyers; b++) {
                row[turn * MOST_BUYERS + b] = change.hasFor(above[b]) ? change.least[above[b]] : CANT;
            }
        }

        /** The TUBES of the next turn: less CHANGE first, then the coins that find room. */
        private void sell(int turn, int buyer) {
            int from = turn * MOST_SORTS;
            int to = from + MOST_SORTS;
            long less = row[turn * MOST_BUYERS + buyer];
            for (int k = 0; k < MOST_SORTS; k++) {
                height[to + k] = height[from + k] - Change.shareOf(less, k);
            }
            for (int i = 0; i < state.coins[buyer]; i++) {
                int k = state.coin[buyer * BUYER_COINS + i];
                height[to + k] = Math.min(TUBE_ROOM, height[to + k] + 1);
            }
        }
    }

    /** ROUNDS: what is LEFT in all MACHINES is one number to the base of 6. */
    private static final class Filler {
        private static final int BASE = TOP_LEFT + 1;
        private static final int STATES = BASE * BASE * BASE * BASE;
        private static final int BITS = 6;
        private static final int UNKNOWN = 63;

        final State state;
        /** Six bits for each number of DAYS, so that one row of STATES does for all. */
        final long[] known = new long[STATES];

        Filler(State state) {
            this.state = state;
        }

        int leastDry(int h) {
            forget();
            return least(h, atFirst());
        }

        int filledOn(int h, int day) {
            forget();
            int code = atFirst();
            for (int d = 0; d < day; d++) {
                code = step(code, firstFilled(h - d, code)) % STATES;
            }
            return firstFilled(h - day, code);
        }

        private void forget() {
            Arrays.fill(known, -1L);
        }

        private int atFirst() {
            int code = 0;
            for (int m = MOST_MACHINES - 1; m >= 0; m--) {
                code = code * BASE + (m < state.machines ? state.left[m] : 0);
            }
            return code;
        }

        private int firstFilled(int days, int code) {
            int fewest = least(days, code);
            for (int m = 0; m < state.machines; m++) {
                if (dryWith(days, code, m) == fewest) {
                    return m;
                }
            }
            return NONE;
        }

        private int least(int days, int code) {
            if (days <= 0) {
                return 0;
            }
            int shift = BITS * (days - 1);
            int before = (int) (known[code] >> shift) & UNKNOWN;
            if (before != UNKNOWN) {
                return before;
            }
            int fewest = UNKNOWN;
            for (int m = 0; m < state.machines; m++) {
                fewest = Math.min(fewest, dryWith(days, code, m));
            }
            known[code] ^= (long) (UNKNOWN ^ fewest) << shift;
            return fewest;
        }

        private int dryWith(int days, int code, int filled) {
            int next = step(code, filled);
            return next / STATES + least(days - 1, next % STATES);
        }

        /** The number behind a DAY, and STATES times how many were DRY. */
        private int step(int code, int filled) {
            int rest = code;
            int next = 0;
            int place = 1;
            for (int m = 0; m < state.machines; m++) {
                int left = m == filled ? state.full[m] : rest % BASE;
                rest /= BASE;
                next += left == 0 ? STATES : (left - 1) * place;
                place *= BASE;
            }
            return next;
        }
    }

    /** A TRAY; its kind is NONE while it is MISSING. */
    private static final class Tray {
        static final int LONGS = 3;

        int kind = NONE;
        int many;
        final long[] cell = new long[TRAY_ROOM];

        void lay(int sort, int length) {
            kind = sort;
            many = length;
            Arrays.fill(cell, 0L);
        }

        long cut(long v) {
            switch (kind) {
                case 0:
                    return (byte) v;
                case 1:
                    return (short) v;
                case 2:
                    return (int) v;
                default:
                    return v;
            }
        }

        boolean holdsSorts(int sorts) {
            for (int i = 0; i < many; i++) {
                if (!within(cell[i], 0, sorts - 1)) {
                    return false;
                }
            }
            return true;
        }
    }
}
