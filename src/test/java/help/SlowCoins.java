import java.util.ArrayList;
import java.util.Arrays;
import java.util.HashMap;
import java.util.List;
import java.util.Map;
import java.util.NoSuchElementException;

/**
 * The document's words once more, by plain enumeration and without a thought for speed: RandomTest holds
 * SlotCoins against it. It shares no code with it.
 */
public final class SlowCoins {
    /** What an IMAGE keeps. */
    private static final class Kept {
        List<int[]> sorts = new ArrayList<>(); // value, from, to, a b of weight, width, ring, wear, flow
        int[] told = {0, 0, 0, 10};
        List<int[]> gates = new ArrayList<>(); // measure, first, second, yes, no (-1 back, -2 next, -3 skip)
        List<Integer> goods = new ArrayList<>();
        List<List<Integer>> tubes = new ArrayList<>();
        List<int[]> bagLoadedWheel = new ArrayList<>();
        List<int[]> slide = new ArrayList<>(); // sort or -1, as, rise, credit
        List<Integer> given = new ArrayList<>();
        int[] cost = {1, 1, 1, 1};
        List<int[]> buyers = new ArrayList<>(); // good, chance, sorts ..
        List<int[]> machines = new ArrayList<>();

        Kept copy() {
            Kept k = new Kept();
            k.sorts = deep(sorts);
            k.told = told.clone();
            k.gates = deep(gates);
            k.goods = new ArrayList<>(goods);
            for (List<Integer> t : tubes) {
                k.tubes.add(new ArrayList<>(t));
            }
            k.bagLoadedWheel = deep(bagLoadedWheel);
            k.slide = deep(slide);
            k.given = new ArrayList<>(given);
            k.cost = cost.clone();
            k.buyers = deep(buyers);
            k.machines = deep(machines);
            return k;
        }

        static List<int[]> deep(List<int[]> rows) {
            List<int[]> to = new ArrayList<>();
            for (int[] r : rows) {
                to.add(r.clone());
            }
            return to;
        }
    }

    private Kept s = new Kept();
    private final Kept[] images = new Kept[3];
    private final Object[] trays = new Object[4];
    private final StringBuilder tape = new StringBuilder();
    private int faultKind = 0;
    private int faultPlace = -1;

    private static void arg(boolean ok) {
        if (!ok) {
            throw new IllegalArgumentException();
        }
    }

    private static void there(boolean ok) {
        if (!ok) {
            throw new NoSuchElementException();
        }
    }

    private void sortThere(int k) {
        there(k >= 0 && k < s.sorts.size());
    }

    public int sort(int value, int from, int to) {
        arg(value >= 0 && value <= 200 && from >= 0 && from <= to && to <= 999);
        if (s.sorts.size() == 8) {
            return -1;
        }
        s.sorts.add(new int[] {value, from, to, 0, 0, 0, 0, 0, 0, 0, 0});
        s.tubes.add(new ArrayList<>());
        s.bagLoadedWheel.add(new int[3]);
        return s.sorts.size() - 1;
    }

    public void span(int sort, int measure, int a, int b) {
        sortThere(sort);
        there(measure >= 0 && measure < 3);
        arg(0 <= a && a <= b && b <= 99);
        s.sorts.get(sort)[3 + 2 * measure] = a;
        s.sorts.get(sort)[4 + 2 * measure] = b;
    }

    private static int swap(int[] row, int at, int v) {
        int was = row[at];
        row[at] = v;
        return was;
    }

    public int wear(int sort, int wear) {
        sortThere(sort);
        arg(wear >= 0 && wear <= 9);
        return swap(s.sorts.get(sort), 9, wear);
    }

    public int flow(int sort, int flow) {
        sortThere(sort);
        arg(flow >= 0 && flow <= 1000);
        return swap(s.sorts.get(sort), 10, flow);
    }

    public int set(int what, int v) {
        there(what >= 0 && what <= 3);
        int[] most = {999, 20, 10, 999};
        arg(v <= most[what] && v >= (what == 2 ? -10 : 0));
        return swap(s.told, what, v);
    }

    private boolean isGood(int k) {
        if (k < 0 || k >= s.sorts.size()) {
            return false;
        }
        int[] r = s.sorts.get(k);
        return r[0] > 0 && r[1] <= s.told[0] && s.told[0] <= r[2];
    }

    public boolean good(int sort) {
        sortThere(sort);
        return isGood(sort);
    }

    public int feed(int a, int b, int c, int d, int e) {
        if (tape.length() + 20 > 400) {
            return -1;
        }
        for (int v : new int[] {a, b, c, d, e}) {
            for (int i = 3; i >= 0; i--) {
                tape.append((char) (v >>> 8 * i & 255));
            }
        }
        return tape.length();
    }

    public int text(int n) {
        arg(n >= 0 && n <= tape.length());
        String text = tape.substring(0, n);
        tape.setLength(0);
        faultKind = 0;
        faultPlace = -1;
        List<int[]> read = readGates(text);
        if (faultKind != 0) {
            return -10 - faultKind;
        }
        s.gates = read;
        return read.size();
    }

    /** Cuts the text by a pattern, then walks a list of what may stand at each of a GATE's places. */
    private List<int[]> readGates(String text) {
        List<int[]> read = new ArrayList<>();
        java.util.regex.Matcher m = java.util.regex.Pattern.compile("[\\n ]*([a-z]+|[0-9]+|;|[^\\n ]|$)", java.util.regex.Pattern.DOTALL)
            .matcher(text);
        int place = 0;
        int[] gate = null;
        int at = 0;
        while (m.find(at)) {
            String t = m.group(1);
            int start = m.start(1);
            at = m.end(1);
            if (t.isEmpty()) {
                if (place != 0) {
                    blame(2, text.length());
                }
                return read;
            }
            if (!t.matches("[a-z]+|[0-9]{1,2}|;")) {
                blame(1, start);
                return read;
            }
            if (place == 0) {
                gate = new int[5];
            }
            int next = stand(place, t, gate, read.size(), start);
            if (faultKind != 0) {
                return read;
            }
            place = next;
            if (place == 100) {
                read.add(gate);
                place = 0;
            }
        }
        throw new AssertionError();
    }

    private void blame(int kind, int place) {
        faultKind = kind;
        faultPlace = place;
    }

    /** Places: 0 gate, 1 MEASURE, 2 N, 3 N, 4 yes, 5 GOAL, 6 N of it, 7 no, 8 GOAL, 9 N of it, 10 the sign. */
    private int stand(int place, String t, int[] gate, int before, int start) {
        boolean number = Character.isDigit(t.charAt(0));
        int n = number ? Integer.parseInt(t) : -1;
        int measure = Arrays.asList("weight", "width", "ring").indexOf(t);
        int goal = Arrays.asList("skip", "next", "back", "take").indexOf(t);
        boolean fits = switch (place) {
            case 0 -> t.equals("gate");
            case 1 -> measure >= 0;
            case 2, 3, 6, 9 -> number;
            case 4 -> t.equals("yes");
            case 7 -> t.equals("no");
            case 5, 8 -> goal >= 0;
            default -> t.equals(";");
        };
        if (!fits) {
            blame(2, start);
        } else if ((place == 6 || place == 9) && n > 7) {
            blame(3, start);
        } else if (place == 3 && n < gate[1]) {
            blame(4, start);
        } else if (place == 0 && before == 8) {
            blame(5, start);
        }
        switch (place) {
            case 1:
                gate[0] = measure;
                return 2;
            case 2:
            case 3:
                gate[place - 1] = n;
                return place + 1;
            case 5:
            case 8:
                gate[place == 5 ? 3 : 4] = goal - 3;
                return goal == 3 ? place + 1 : place + 2;
            case 6:
            case 9:
                gate[place == 6 ? 3 : 4] = n;
                return place + 1;
            case 10:
                return 100;
            default:
                return place + 1;
        }
    }

    public int fault(int what) {
        return what == 0 ? faultKind : what == 1 ? faultPlace : -1;
    }

    private void gateThere(int g) {
        there(g >= 0 && g < s.gates.size());
    }

    public int gate(int gate, int what) {
        gateThere(gate);
        arg(what >= 0 && what <= 2);
        return s.gates.get(gate)[what];
    }

    private static int cut(int v) {
        return v < 0 ? 0 : v > 99 ? 99 : v;
    }

    private int goes(int weight, int width, int ring) {
        int[] read = {weight, width, cut(ring + s.told[2])};
        int g = 0;
        while (g < s.gates.size()) {
            int[] r = s.gates.get(g);
            int goal = read[r[0]] >= r[1] && read[r[0]] <= r[2] ? r[3] : r[4];
            if (goal == -2) {
                g++;
            } else if (goal == -3) {
                g += 2;
            } else {
                return isGood(goal) ? goal : -1;
            }
        }
        return -1;
    }

    public int taken(int weight, int width, int ring) {
        for (int v : new int[] {weight, width, ring}) {
            arg(v >= 0 && v <= 99);
        }
        return goes(weight, width, ring);
    }

    int[] bounds(int k) {
        int[] b = Arrays.copyOfRange(s.sorts.get(k), 3, 9);
        int worn = s.sorts.get(k)[9] * s.told[1] / 10;
        b[0] = Math.max(0, b[0] - worn);
        b[1] = Math.max(0, b[1] - worn);
        return b;
    }

    /** How many COINS there are, how many are refused, and how many are TAKEN AS each. */
    private long[] tally(int k) {
        long[] t = new long[10];
        int[] b = bounds(k);
        for (int w = b[0]; w <= b[1]; w++) {
            for (int d = b[2]; d <= b[3]; d++) {
                for (int r = b[4]; r <= b[5]; r++) {
                    t[0]++;
                    t[goes(w, d, r) + 2]++;
                }
            }
        }
        return t;
    }

    public long coins(int sort) {
        sortThere(sort);
        return tally(sort)[0];
    }

    public long passes(int sort, int as) {
        sortThere(sort);
        if (as != -1) {
            sortThere(as);
        }
        return tally(sort)[as + 2];
    }

    public long wrong(int sort) {
        sortThere(sort);
        long[] t = tally(sort);
        long own = isGood(sort) ? s.sorts.get(sort)[0] : 0;
        long sum = isGood(sort) ? t[1] * s.told[3] : 0;
        for (int k = 0; k < s.sorts.size(); k++) {
            if (k != sort) {
                sum += t[k + 2] * Math.max(0, (isGood(k) ? s.sorts.get(k)[0] : 0) - own);
            }
        }
        return 1000000L * sum / t[0];
    }

    public long loss(int gate, int d, int e) {
        gateThere(gate);
        arg(Math.abs((long) d) <= 99 && Math.abs((long) e) <= 99);
        int[] was = s.gates.get(gate);
        int[] moved = was.clone();
        moved[1] = cut(was[1] + d);
        moved[2] = cut(was[2] + e);
        s.gates.set(gate, moved);
        long sum = 0;
        for (int k = 0; k < s.sorts.size(); k++) {
            sum += s.sorts.get(k)[10] == 0 ? 0 : s.sorts.get(k)[10] * wrong(k);
        }
        s.gates.set(gate, was);
        return sum;
    }

    public long best(int gate, int what) {
        gateThere(gate);
        arg(what >= 0 && what <= 2);
        List<long[]> all = new ArrayList<>();
        for (int d = 4; d >= -4; d--) {
            for (int e = 4; e >= -4; e--) {
                all.add(new long[] {loss(gate, d, e), Math.abs(d) + Math.abs(e), d, e});
            }
        }
        all.sort((a, b) -> Arrays.compare(a, b));
        return all.get(0)[what == 2 ? 0 : what + 2];
    }

    public boolean move(int gate, int d, int e) {
        gateThere(gate);
        arg(Math.abs((long) d) <= 99 && Math.abs((long) e) <= 99);
        int[] was = s.gates.get(gate);
        int first = cut(was[1] + d);
        int second = cut(was[2] + e);
        if (first > second) {
            return false;
        }
        was[1] = first;
        was[2] = second;
        return true;
    }

    private void goodThere(int g) {
        there(g >= 0 && g < s.goods.size());
    }

    public int offer(int price) {
        arg(price >= 1 && price <= 500);
        if (s.goods.size() == 6) {
            return -1;
        }
        s.goods.add(price);
        return s.goods.size() - 1;
    }

    public int price(int good, int price) {
        goodThere(good);
        arg(price >= 1 && price <= 500);
        return s.goods.set(good, price);
    }

    public int load(int tube, int sort, int many) {
        sortThere(tube);
        sortThere(sort);
        arg(many >= 1 && many <= 20);
        if (s.tubes.get(tube).size() + many > 20) {
            return -1;
        }
        for (int i = 0; i < many; i++) {
            s.tubes.get(tube).add(sort);
        }
        s.bagLoadedWheel.get(tube)[1] += many;
        return s.tubes.get(tube).size();
    }

    public int put(int sort, int weight, int width, int ring, int way) {
        sortThere(sort);
        int[] b = bounds(sort);
        arg(weight >= b[0] && weight <= b[1] && width >= b[2] && width <= b[3] && ring >= b[4] && ring <= b[5]);
        arg(way >= 0 && way <= 3);
        if (way == 3) {
            s.bagLoadedWheel.get(sort)[0]++;
            return sort;
        }
        int as = goes(weight, width, ring);
        if (as == -1 || s.slide.size() == 12) {
            return -1;
        }
        int rise = way == 1 ? 2 : 1;
        s.slide.add(new int[] {way == 2 ? -1 : sort, as, rise, rise * s.sorts.get(as)[0]});
        s.bagLoadedWheel.get(as)[2] += rise;
        return as;
    }

    public int credit() {
        return s.slide.stream().mapToInt(r -> r[3]).sum();
    }

    /** How many of each TUBE, or null: the fewest, then the most of SORT 0, and so on. */
    private int[] change(int[] heights, int sum) {
        return change(0, sum, heights, new HashMap<>());
    }

    private int[] change(int k, int sum, int[] heights, Map<Integer, int[]> known) {
        if (k == s.sorts.size()) {
            return sum == 0 ? new int[k] : null;
        }
        int key = k * 10000 + sum;
        if (known.containsKey(key)) {
            return known.get(key);
        }
        int[] best = null;
        int value = s.sorts.get(k)[0];
        for (int many = isGood(k) ? Math.min(heights[k], sum / value) : 0; many >= 0; many--) {
            int[] rest = change(k + 1, sum - many * value, heights, known);
            if (rest != null) {
                int[] row = rest.clone();
                row[k] = many;
                if (best == null || Arrays.stream(row).sum() < Arrays.stream(best).sum()) {
                    best = row;
                }
            }
        }
        known.put(key, best);
        return best;
    }

    private int[] heights() {
        return s.tubes.stream().mapToInt(List::size).toArray();
    }

    public int sale(int good) {
        goodThere(good);
        int above = credit() - s.goods.get(good);
        int[] row = above < 0 ? null : change(heights(), above);
        if (row == null) {
            return -1;
        }
        s.given.clear();
        for (int k = 0; k < row.length; k++) {
            List<Integer> tube = s.tubes.get(k);
            for (int i = 0; i < row[k]; i++) {
                s.given.add(tube.remove(tube.size() - 1));
                s.bagLoadedWheel.get(k)[2]--;
            }
        }
        for (int[] r : s.slide) {
            if (r[0] != -1 && s.tubes.get(r[1]).size() < 20) {
                s.tubes.get(r[1]).add(r[0]);
            } else if (r[0] != -1) {
                s.bagLoadedWheel.get(r[0])[0]++;
            }
        }
        s.slide.clear();
        return s.given.size();
    }

    public int refund() {
        s.given.clear();
        for (int[] r : s.slide) {
            s.bagLoadedWheel.get(r[1])[2] -= r[2];
            if (r[0] != -1) {
                s.given.add(r[0]);
            }
        }
        s.slide.clear();
        return s.given.size();
    }

    public int given(int i) {
        return i < 0 || i >= s.given.size() ? -1 : s.given.get(i);
    }

    public int tube(int tube, int what) {
        sortThere(tube);
        arg(what >= 0 && what <= 2);
        List<Integer> t = s.tubes.get(tube);
        return switch (what) {
            case 0 -> t.size();
            case 1 -> (int) t.stream().filter(c -> c != tube).count();
            default -> t.isEmpty() ? -1 : t.get(t.size() - 1);
        };
    }

    public int bag(int sort) {
        sortThere(sort);
        return s.bagLoadedWheel.get(sort)[0];
    }

    public int empty(int tube) {
        sortThere(tube);
        int many = s.tubes.get(tube).size();
        for (int c : s.tubes.get(tube)) {
            s.bagLoadedWheel.get(c)[0]++;
        }
        s.tubes.get(tube).clear();
        return many;
    }

    public int lacks(int good, int what) {
        goodThere(good);
        arg(what >= 0 && what <= 2);
        int price = s.goods.get(good);
        int many = 0;
        int least = -1;
        int longest = 0;
        int row = 0;
        for (int sum = price; sum <= price + 200; sum++) {
            if (change(heights(), sum - price) != null) {
                row = 0;
                continue;
            }
            many++;
            row++;
            longest = Math.max(longest, row);
            least = least == -1 ? sum : least;
        }
        return what == 0 ? many : what == 1 ? least : longest;
    }

    private boolean canBe(int k, int sum) {
        if (k == s.sorts.size()) {
            return sum == 0;
        }
        for (int rest = sum; rest >= 0; rest -= s.sorts.get(k)[0]) {
            if (canBe(k + 1, rest)) {
                return true;
            }
            if (!isGood(k)) {
                return false;
            }
        }
        return false;
    }

    public int made(int p) {
        arg(p >= 1 && p <= 1000);
        java.util.BitSet sums = new java.util.BitSet();
        sums.set(0);
        for (int sum = 0; sum <= 1000; sum++) {
            for (int k = 0; k < s.sorts.size() && sums.get(sum); k++) {
                if (isGood(k)) {
                    sums.set(sum + s.sorts.get(k)[0]);
                }
            }
        }
        int least = sums.nextSetBit(p);
        if (p < 60 && least > 0 && least < 60 && !canBe(0, least)) {
            throw new AssertionError();
        }
        return least > 1000 ? -1 : least;
    }

    public int wheel(int sort, int what) {
        sortThere(sort);
        arg(what >= 0 && what <= 3);
        int[] r = s.bagLoadedWheel.get(sort);
        int due = r[1] + r[2];
        int has = r[0];
        for (List<Integer> t : s.tubes) {
            has += (int) t.stream().filter(c -> c == sort).count();
        }
        return new int[] {r[2], due, has, has - due}[what];
    }

    public int cost(int kind, int c) {
        there(kind >= 0 && kind <= 3);
        arg(c >= 0 && c <= 999);
        return swap(s.cost, kind, c);
    }

    /** Slugs one after the other, each by a row of changes that makes room for one more. */
    public int explain(int what) {
        arg(what >= 0 && what <= 2);
        int n = s.sorts.size();
        int[] odd = new int[n];
        boolean[][] can = new boolean[n][n];
        for (int i = 0; i < n; i++) {
            odd[i] = wheel(i, 3);
            long[] t = tally(i);
            for (int k = 0; k < n; k++) {
                can[i][k] = t[k + 2] > 0;
            }
        }
        int[][] used = new int[n][n];
        int[] rest = odd.clone();
        int most = 0;
        while (oneMore(rest, can, used)) {
            most++;
        }
        int more = Arrays.stream(odd).filter(o -> o > 0).sum();
        int less = -Arrays.stream(odd).filter(o -> o < 0).sum();
        int best = Integer.MAX_VALUE;
        int fewest = 0;
        int greatest = 0;
        for (int slugs = 0; slugs <= most; slugs++) {
            int c = slugs * s.cost[3] + (more - slugs) * s.cost[0] + (less - slugs) * Math.min(s.cost[1], s.cost[2]);
            if (c < best) {
                fewest = slugs;
            }
            if (c <= best) {
                best = c;
                greatest = slugs;
            }
        }
        return what == 0 ? best : what == 1 ? fewest : greatest;
    }

    private static boolean oneMore(int[] rest, boolean[][] can, int[][] used) {
        for (int i = 0; i < rest.length; i++) {
            if (rest[i] > 0 && reach(i, rest, can, used, new boolean[rest.length])) {
                rest[i]--;
                return true;
            }
        }
        return false;
    }

    private static boolean reach(int i, int[] rest, boolean[][] can, int[][] used, boolean[] seen) {
        seen[i] = true;
        for (int k = 0; k < rest.length; k++) {
            if (!can[i][k]) {
                continue;
            }
            if (rest[k] < 0) {
                rest[k]++;
                used[i][k]++;
                return true;
            }
            for (int j = 0; j < rest.length; j++) {
                if (used[j][k] > 0 && !seen[j] && reach(j, rest, can, used, seen)) {
                    used[j][k]--;
                    used[i][k]++;
                    return true;
                }
            }
        }
        return false;
    }

    public int buyer(int good, int a, int b, int c, int d, int chance) {
        goodThere(good);
        List<Integer> row = new ArrayList<>(List.of(good, chance));
        sortThere(a);
        row.add(a);
        for (int k : new int[] {b, c, d}) {
            if (k == -1) {
                break;
            }
            sortThere(k);
            row.add(k);
        }
        arg(chance >= 1 && chance <= 9);
        if (s.buyers.size() == 5) {
            return -1;
        }
        s.buyers.add(row.stream().mapToInt(v -> v).toArray());
        return s.buyers.size() - 1;
    }

    /** The numbers of coins behind a SALE; null if it can't be. */
    private int[] served(int[] heights, int[] buyer) {
        int sum = 0;
        for (int i = 2; i < buyer.length; i++) {
            if (!isGood(buyer[i])) {
                return null;
            }
            sum += s.sorts.get(buyer[i])[0];
        }
        int above = sum - s.goods.get(buyer[0]);
        int[] row = above < 0 ? null : change(heights, above);
        if (row == null) {
            return null;
        }
        int[] then = heights.clone();
        for (int k = 0; k < row.length; k++) {
            then[k] -= row[k];
        }
        for (int i = 2; i < buyer.length; i++) {
            then[buyer[i]] = Math.min(20, then[buyer[i]] + 1);
        }
        return then;
    }

    private long power(int n) {
        long all = s.buyers.stream().mapToInt(b -> b[1]).sum();
        return n == 0 ? 1 : all * power(n - 1);
    }

    private long mean(int[] heights, int n) {
        long sum = 0;
        for (int[] b : s.buyers) {
            if (n == 0) {
                break;
            }
            long best = mean(heights, n - 1);
            int[] then = served(heights, b);
            if (then != null) {
                best = Math.max(best, power(n - 1) + mean(then, n - 1));
            }
            sum += b[1] * best;
        }
        return sum;
    }

    public long most(int n) {
        arg(n >= 1 && n <= 3);
        return mean(heights(), n);
    }

    public int serve(int n, int buyer) {
        there(buyer >= 0 && buyer < s.buyers.size());
        arg(n >= 1 && n <= 3);
        int[] then = served(heights(), s.buyers.get(buyer));
        if (then == null) {
            return -1;
        }
        return power(n - 1) + mean(then, n - 1) >= mean(heights(), n - 1) ? 1 : 0;
    }

    public int machine(int left, int full) {
        arg(left >= 0 && left <= 5 && full >= 1 && full <= 5);
        if (s.machines.size() == 4) {
            return -1;
        }
        s.machines.add(new int[] {left, full});
        return s.machines.size() - 1;
    }

    public int rounds(int h, int day) {
        arg(h >= 1 && h <= 8);
        int n = s.machines.size();
        if (n == 0) {
            return -1;
        }
        long rows = 1;
        for (int i = 0; i < h; i++) {
            rows *= n;
        }
        int best = Integer.MAX_VALUE;
        int[] first = null;
        for (long r = 0; r < rows; r++) {
            int[] fill = new int[h];
            long rest = r;
            for (int i = h - 1; i >= 0; i--) {
                fill[i] = (int) (rest % n);
                rest /= n;
            }
            int dry = dry(fill);
            if (dry < best) {
                best = dry;
                first = fill;
            }
        }
        return day == -1 ? best : day < 0 || day >= h ? -1 : first[day];
    }

    private int dry(int[] fill) {
        int[] left = s.machines.stream().mapToInt(m -> m[0]).toArray();
        int dry = 0;
        for (int f : fill) {
            left[f] = s.machines.get(f)[1];
            for (int m = 0; m < left.length; m++) {
                if (left[m] == 0) {
                    dry++;
                } else {
                    left[m]--;
                }
            }
        }
        return dry;
    }

    public void tray(int tray, int sort, int many) {
        there(tray >= 0 && tray <= 3);
        arg(sort >= 0 && sort <= 3 && many >= 0 && many <= 20);
        trays[tray] = sort == 0 ? new byte[many] : sort == 1 ? new short[many] : sort == 2 ? new int[many] : new long[many];
    }

    public long write(int tray, int place, long v) {
        there(tray >= 0 && tray <= 3);
        if (trays[tray] == null) {
            throw new IllegalStateException();
        }
        if (place < 0 || place >= java.lang.reflect.Array.getLength(trays[tray])) {
            throw new IndexOutOfBoundsException();
        }
        if (trays[tray] instanceof byte[] b) {
            b[place] = (byte) v;
        } else if (trays[tray] instanceof short[] b) {
            b[place] = (short) v;
        } else if (trays[tray] instanceof int[] b) {
            b[place] = (int) v;
        } else if (trays[tray] instanceof long[] b) {
            b[place] = v;
        }
        return java.lang.reflect.Array.getLong(trays[tray], place);
    }

    public int pour(int tray, int tube) {
        there(tray >= 0 && tray <= 3);
        sortThere(tube);
        if (trays[tray] == null) {
            throw new IllegalStateException();
        }
        int many = java.lang.reflect.Array.getLength(trays[tray]);
        List<Integer> coins = new ArrayList<>();
        for (int i = 0; i < many; i++) {
            long v = java.lang.reflect.Array.getLong(trays[tray], i);
            arg(v >= 0 && v < s.sorts.size());
            coins.add((int) v);
        }
        if (s.tubes.get(tube).size() + many > 20) {
            return -1;
        }
        s.tubes.get(tube).addAll(coins);
        s.bagLoadedWheel.get(tube)[1] += many;
        return s.tubes.get(tube).size();
    }

    public void image(int i) {
        there(i >= 0 && i <= 2);
        images[i] = s.copy();
    }

    public void restore(int i) {
        there(i >= 0 && i <= 2);
        if (images[i] == null) {
            throw new IllegalStateException();
        }
        s = images[i].copy();
    }

    public int count(int what) {
        int[] all = {s.sorts.size(), s.gates.size(), s.goods.size(), s.slide.size(), s.buyers.size(),
            s.machines.size(), tape.length(), s.given.size()};
        return what < 0 || what > 7 ? -1 : all[what];
    }
}
