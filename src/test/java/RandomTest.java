import java.lang.reflect.InvocationTargetException;
import java.lang.reflect.Method;
import java.util.ArrayList;
import java.util.HashMap;
import java.util.List;
import java.util.Map;
import java.util.Random;

/** Runs of calls by dice (always the same ones), each answer held against that of SlowCoins. */
public final class RandomTest {
    private static final int[] VALUES = {0, 0, 1, 2, 3, 5, 10, 10, 20, 50, 100, 200};
    private static final int[] ODD_NUMBERS = {-2, 1000, 100, -100, 401, Integer.MAX_VALUE, Integer.MIN_VALUE, 8, 21};
    private static final String[] GOALS = {"next", "skip", "back", "take 0", "take 1", "take 2", "take 03", "take 7", "next"};
    private static final Map<String, Method> FAST = methods(SlotCoins.class);
    private static final Map<String, Method> SLOW = methods(SlowCoins.class);
    private static final Map<String, Integer> ANSWERED = new HashMap<>();

    private final Random dice;
    private final long seed;
    private final SlotCoins fast = new SlotCoins();
    private final SlowCoins slow = new SlowCoins();
    private final List<String> calls = new ArrayList<>();
    private boolean differs = false;

    private RandomTest(long seed) {
        this.seed = seed;
        this.dice = new Random(seed);
    }

    public static void main(String[] args) {
        int runs = args.length > 0 ? Integer.parseInt(args[0]) : 3000;
        long first = args.length > 1 ? Long.parseLong(args[1]) : 1;
        int wrong = 0;
        for (long seed = first; seed < first + runs && wrong < 5; seed++) {
            RandomTest run = new RandomTest(seed);
            run.play();
            if (run.differs) {
                wrong++;
                run.calls.forEach(System.out::println);
            }
        }
        for (String name : SLOW.keySet()) {
            if (!ANSWERED.containsKey(name)) {
                System.out.println(name + " was never answered");
                wrong++;
            }
        }
        if (args.length > 0) {
            System.out.println(ANSWERED);
        }
        System.out.println(runs + " runs, " + wrong + " not as due");
        if (wrong != 0) {
            System.exit(1);
        }
    }

    private static Map<String, Method> methods(Class<?> of) {
        Map<String, Method> all = new HashMap<>();
        for (Method m : of.getDeclaredMethods()) {
            if (java.lang.reflect.Modifier.isPublic(m.getModifiers())) {
                all.put(m.getName(), m);
            }
        }
        return all;
    }

    private static Object answer(Method m, Object on, Object[] args) {
        try {
            Object got = m.invoke(on, args);
            return got == null ? "nothing" : got.toString();
        } catch (InvocationTargetException e) {
            return "throws." + e.getCause().getClass().getSimpleName();
        } catch (IllegalAccessException e) {
            throw new AssertionError(e);
        }
    }

    private void call(String name, Object... args) {
        if (differs || calls.size() >= 511) {
            return;
        }
        Object due = answer(SLOW.get(name), slow, args);
        Object got = answer(FAST.get(name), fast, args);
        if (!due.toString().startsWith("throws")) {
            ANSWERED.merge(name, 1, Integer::sum);
        }
        String told = name + java.util.Arrays.toString(args) + " -> " + got;
        calls.add(told);
        if (!due.equals(got)) {
            differs = true;
            calls.add("seed " + seed + ": due is " + due);
        }
    }

    private int upTo(int n) {
        return dice.nextInt(n + 1);
    }

    private int from(int low, int high) {
        return low + dice.nextInt(high - low + 1);
    }

    private boolean chance(int percent) {
        return dice.nextInt(100) < percent;
    }

    /** Now and then a number that is out of bounds for almost all. */
    private int rarelyOdd(int usual) {
        return chance(3) ? ODD_NUMBERS[dice.nextInt(ODD_NUMBERS.length)] : chance(2) ? -1 : usual;
    }

    private int sortNumber() {
        int many = slow.count(0);
        return rarelyOdd(many == 0 || chance(2) ? many : dice.nextInt(many));
    }

    private int oneOf(int what) {
        int many = slow.count(what);
        return rarelyOdd(many == 0 || chance(3) ? many : dice.nextInt(many));
    }

    private void play() {
        if (chance(15)) {
            call("image", 2);
            open();
            call("image", 1);
            call("restore", 2);
        }
        open();
        int theme = dice.nextInt(5);
        int length = from(20, chance(10) ? 480 : 120);
        for (int i = 0; i < length && !differs; i++) {
            step(chance(40) ? theme : dice.nextInt(5));
        }
    }

    private void open() {
        if (chance(50)) {
            openShop();
        } else {
            tellAnything();
        }
    }

    /** Gates that take each sort as itself and some slugs, too, change in the tubes, low prices, buyers, machines. */
    private void openShop() {
        int sorts = from(2, 8);
        StringBuilder gates = new StringBuilder();
        for (int k = 0; k < sorts; k++) {
            int value = chance(15) ? 0 : chance(70) ? VALUES[from(2, 8)] : from(1, 30);
            call("sort", value, 0, chance(85) ? 999 : 4);
            int weight = value == 0 ? upTo(7) : k;
            call("span", k, 0, weight, Math.min(99, weight + (chance(80) ? 0 : upTo(2))));
            call("flow", k, upTo(9));
            if (value > 0) {
                gates.append("gate weight ").append(k).append(' ').append(k).append(" yes take ").append(k)
                    .append(chance(90) ? " no next;" : " no skip;");
            }
            if (chance(80)) {
                call("load", k, chance(80) ? k : upTo(k), chance(70) ? from(1, 5) : from(1, 20));
            }
        }
        feedText(gates.toString());
        call("text", gates.length());
        for (int i = from(1, 4); i > 0; i--) {
            call("offer", chance(70) ? from(1, 15) : from(1, 40));
        }
        for (int i = upTo(5); i > 0; i--) {
            tellBuyer();
        }
        for (int i = upTo(4); i > 0; i--) {
            call("machine", upTo(5), from(1, 5));
        }
    }

    private void tellBuyer() {
        call("buyer", oneOf(2), sortNumber(), chance(40) ? -1 : sortNumber(), chance(40) ? -1 : sortNumber(),
            chance(50) ? -1 : sortNumber(), rarelyOdd(from(1, 9)));
    }

    private void tellAnything() {
        int sorts = from(1, chance(20) ? 9 : 5);
        for (int i = 0; i < sorts; i++) {
            tellSort();
        }
        tellText();
        for (int i = from(0, 3); i > 0; i--) {
            call("offer", chance(80) ? from(1, 60) : from(1, 500));
            call("load", sortNumber(), sortNumber(), from(1, 20));
        }
    }

    private void tellSort() {
        int value = chance(80) ? VALUES[dice.nextInt(VALUES.length)] : upTo(200);
        int start = chance(70) ? 0 : upTo(9);
        call("sort", rarelyOdd(value), rarelyOdd(start), rarelyOdd(chance(70) ? 999 : start + upTo(9)));
        int k = slow.count(0) - 1;
        for (int m = 0; m < 3; m++) {
            tellSpan(k, m);
        }
        if (chance(60)) {
            call("flow", k, chance(50) ? upTo(5) : upTo(1000));
        }
        if (chance(30)) {
            call("wear", k, upTo(9));
        }
    }

    private void tellSpan(int k, int measure) {
        int a = chance(70) ? from(40, 48) : chance(30) ? 0 : chance(40) ? from(92, 99) : upTo(99);
        int b = chance(96) ? Math.min(99, a + upTo(measure == 1 ? 3 : 8)) : chance(50) ? upTo(99) : 99;
        call("span", k, rarelyOdd(measure), rarelyOdd(a), rarelyOdd(b));
    }

    private int bound() {
        return chance(75) ? from(38, 58) : chance(25) ? 0 : chance(35) ? 99 : upTo(99);
    }

    private String gateText() {
        int a = bound();
        int b = bound();
        String[] measures = {"weight", "width", "ring"};
        String text = "gate " + measures[dice.nextInt(3)] + " " + Math.min(a, b) + " " + Math.max(a, b)
            + " yes " + GOALS[dice.nextInt(GOALS.length)] + " no " + GOALS[dice.nextInt(GOALS.length)] + ";";
        return chance(20) ? text.replace(" yes", "\n  yes").replace(";", " ; ") : text;
    }

    private String mutated(String text) {
        String signs = " \n;0123456789abcgknotwyzX#{}\t" + (char) 200 + (char) 0;
        StringBuilder b = new StringBuilder(text);
        for (int i = from(1, 3); i > 0 && b.length() > 0; i--) {
            int at = dice.nextInt(b.length());
            int way = dice.nextInt(4);
            if (way == 0) {
                b.deleteCharAt(at);
            } else if (way == 1) {
                b.setCharAt(at, signs.charAt(dice.nextInt(signs.length())));
            } else if (way == 2) {
                b.insert(at, signs.charAt(dice.nextInt(signs.length())));
            } else if (chance(30)) {
                b.setLength(at);
            }
        }
        return b.toString();
    }

    private void tellText() {
        StringBuilder all = new StringBuilder();
        for (int i = chance(5) ? 9 : from(0, chance(30) ? 8 : 4); i > 0; i--) {
            all.append(gateText());
        }
        String text = chance(30) ? mutated(all.toString()) : all.toString();
        feedText(text);
        call("count", 6);
        call("text", rarelyOdd(Math.min(slow.count(6), chance(95) ? text.length() : upTo(400))));
        call("fault", 0);
        call("fault", 1);
        call("count", 1);
    }

    private void feedText(String text) {
        for (int at = 0; at < text.length(); at += 20) {
            Object[] four = new Object[5];
            for (int i = 0; i < 5; i++) {
                int v = 0;
                for (int j = 0; j < 4; j++) {
                    int place = at + 4 * i + j;
                    v = v << 8 | (place < text.length() ? text.charAt(place) & 255 : 32);
                }
                four[i] = v;
            }
            call("feed", four);
        }
    }

    private void putCoin() {
        int k = sortNumber();
        int[] b = {0, 9, 0, 9, 0, 9};
        if (k >= 0 && k < slow.count(0)) {
            b = slow.bounds(k);
        }
        call("put", k, rarelyOdd(from(b[0], b[1])), rarelyOdd(from(b[2], b[3])), rarelyOdd(from(b[4], b[5])),
            rarelyOdd(chance(50) ? 0 : upTo(3)));
    }

    private void step(int theme) {
        switch (theme) {
            case 0:
                tellSomething();
                break;
            case 1:
                askGates();
                break;
            case 2:
                sell();
                break;
            case 3:
                askMachine();
                break;
            default:
                askRest();
                break;
        }
    }

    private void tellSomething() {
        int[] most = {9, 20, 10, 999};
        switch (dice.nextInt(12)) {
            case 0:
                tellSort();
                break;
            case 1:
                if (chance(50)) {
                    tellText();
                }
                break;
            case 2:
                tellSpan(sortNumber(), upTo(2));
                break;
            case 3:
            case 4:
                int what = upTo(3);
                call("set", rarelyOdd(what), rarelyOdd(what == 2 ? from(-10, 10) : upTo(chance(5) ? 999 : most[what])));
                break;
            case 5:
                call("wear", sortNumber(), rarelyOdd(upTo(10)));
                break;
            case 6:
                call("flow", sortNumber(), rarelyOdd(upTo(1001)));
                break;
            case 7:
                call("move", oneOf(1), rarelyOdd(from(-9, 9)), rarelyOdd(from(-9, 9)));
                break;
            case 8:
                call("offer", rarelyOdd(from(1, chance(80) ? 60 : 501)));
                break;
            case 9:
                call("price", oneOf(2), rarelyOdd(from(1, chance(80) ? 60 : 501)));
                break;
            case 10:
                call("cost", rarelyOdd(upTo(3)), rarelyOdd(chance(80) ? upTo(3) : upTo(999)));
                break;
            default:
                call("machine", rarelyOdd(upTo(5)), rarelyOdd(from(1, 5)));
                break;
        }
    }

    private void askGates() {
        switch (dice.nextInt(9)) {
            case 0:
                call("good", sortNumber());
                break;
            case 1:
                call("gate", oneOf(1), rarelyOdd(upTo(2)));
                break;
            case 2:
            case 3:
                call("taken", rarelyOdd(bound()), rarelyOdd(bound()), rarelyOdd(bound()));
                break;
            case 4:
                call("coins", sortNumber());
                break;
            case 5:
                call("passes", sortNumber(), chance(30) ? -1 : sortNumber());
                break;
            case 6:
                call("wrong", sortNumber());
                break;
            case 7:
                call("loss", oneOf(1), rarelyOdd(chance(80) ? from(-6, 6) : from(-99, 99)),
                    rarelyOdd(chance(80) ? from(-6, 6) : from(-99, 99)));
                break;
            default:
                askBest();
                break;
        }
    }

    /** All three, but not where SlowCoins would count for long. */
    private void askBest() {
        long coins = 0;
        for (int k = 0; k < slow.count(0); k++) {
            coins += slow.coins(k);
        }
        int gate = oneOf(1);
        for (int what = 0; what < 3 && coins < 3000; what++) {
            call("best", gate, rarelyOdd(what));
        }
    }

    private void sell() {
        for (int i = chance(20) ? from(8, 14) : from(1, 4); i > 0; i--) {
            putCoin();
        }
        call("credit");
        call("count", 3);
        if (chance(10)) {
            call("refund");
        } else {
            call("sale", oneOf(2));
        }
        call("count", 7);
        call("given", rarelyOdd(upTo(3)));
        call("given", slow.count(7) - 1);
        call("wheel", sortNumber(), rarelyOdd(upTo(3)));
    }

    private void askMachine() {
        switch (dice.nextInt(10)) {
            case 0:
            case 1:
                int tube = sortNumber();
                call("load", tube, chance(70) ? tube : sortNumber(), rarelyOdd(chance(80) ? from(1, 6) : upTo(21)));
                break;
            case 2:
                call("tube", sortNumber(), rarelyOdd(upTo(2)));
                break;
            case 3:
                call("bag", sortNumber());
                break;
            case 4:
                if (chance(50)) {
                    call("empty", sortNumber());
                }
                break;
            case 5:
                call("lacks", oneOf(2), rarelyOdd(upTo(2)));
                break;
            case 6:
                call("made", rarelyOdd(chance(60) ? from(1, 50) : from(1, 1000)));
                break;
            case 7:
                call("wheel", sortNumber(), rarelyOdd(upTo(3)));
                break;
            default:
                call("explain", 0);
                call("explain", 1);
                call("explain", rarelyOdd(2));
                break;
        }
    }

    private void askRest() {
        switch (dice.nextInt(10)) {
            case 0:
                tellBuyer();
                break;
            case 1:
                call("most", rarelyOdd(from(1, 3)));
                break;
            case 2:
            case 3:
                call("serve", rarelyOdd(from(1, 3)), oneOf(4));
                break;
            case 4:
                int h = from(1, slow.count(5) > 3 ? 5 : slow.count(5) > 2 ? 7 : 8);
                call("rounds", rarelyOdd(h), chance(30) ? -1 : rarelyOdd(upTo(h)));
                break;
            case 5:
                int tray = upTo(3);
                int places = chance(80) ? upTo(4) : upTo(20);
                call("tray", rarelyOdd(tray), rarelyOdd(upTo(3)), rarelyOdd(places));
                for (int i = 0; i < places; i++) {
                    call("write", tray, i, chance(90) ? (long) upTo(2) : dice.nextLong());
                }
                call("pour", tray, sortNumber());
                break;
            case 6:
                call("write", rarelyOdd(upTo(3)), rarelyOdd(upTo(4)), chance(70) ? (long) upTo(3) : dice.nextLong());
                break;
            case 7:
                call("pour", rarelyOdd(upTo(3)), sortNumber());
                break;
            case 8:
                call(chance(50) ? "image" : "restore", rarelyOdd(upTo(1)));
                break;
            default:
                call("count", rarelyOdd(upTo(7)));
                call("fault", rarelyOdd(upTo(1)));
                break;
        }
    }
}
