import java.util.function.IntConsumer;

/** Boundary cases of the promises 1 to 7, and of the Terms that they use: a test for each sentence. */
public final class EdgesOfCoinsTest {
    public static void main(String[] args) {
        nothingTold();
        traysMissing();
        emptyTape();
        numberedAsTheyCome();
        ninthSort();
        valuesAndDaysRefused();
        valueBounds();
        dayBounds();
        spanOfOneMeasure();
        spanBounds();
        spansAtFirst();
        noSuchSort();
        noSuchMeasure();
        spanRefused();
        wearWas();
        wearBounds();
        flowWas();
        flowBounds();
        settingsWere();
        settingsAtFirst();
        refusalAtFirst();
        anotherSetting();
        settingsRefused();
        goodAboveZero();
        goodOnItsDays();
        dayAtFirst();
        Check.end();
    }

    private static SlotCoins eight() {
        SlotCoins x = new SlotCoins();
        for (int k = 0; k < 8; k++) {
            x.sort(k + 1, 0, 9);
        }
        return x;
    }

    /** Each of the eight is good on a day of its own. */
    private static SlotCoins eightDays() {
        SlotCoins x = new SlotCoins();
        for (int k = 0; k < 8; k++) {
            x.sort(11 + k, k, k);
        }
        return x;
    }

    /** Promise 1: "Nothing is told" */
    private static void nothingTold() {
        SlotCoins x = new SlotCoins();
        for (int what = 0; what <= 7; what++) {
            Check.due("new count " + what, x.count(what), 0);
        }
        Check.none("new: no sort", () -> x.good(0));
        Check.none("new: no gate", () -> x.gate(0, 0));
        Check.none("new: no good", () -> x.sale(0));
        Check.none("new: no buyer", () -> x.serve(1, 0));
        Check.due("new: no machine", x.rounds(1, -1), -1);
        Check.due("new: no credit", x.credit(), 0);
        Check.due("new: nothing to give back", x.refund(), 0);
        Check.due("new: nothing given", x.given(0), -1);
        Check.due("new: nothing is made", x.made(1), -1);
        Check.due("new: all are refused", x.taken(0, 0, 0), -1);
        Check.due("new: nothing odd", x.explain(0), 0);
        Check.due("new: no fault", x.fault(0), 0);
        Check.due("new: the first sort", x.sort(0, 0, 0), 0);
        Check.due("new: the first good", x.offer(1), 0);
        Check.due("new: the first buyer", x.buyer(0, 0, -1, -1, -1, 1), 0);
        Check.due("new: the first machine", x.machine(0, 1), 0);
        Check.due("new: an empty tube", x.tube(0, 0), 0);
        Check.due("new: an empty bag", x.bag(0), 0);
        Check.due("new: a wheel at 0", x.wheel(0, 0), 0);
    }

    /** Promise 1: "TRAYS are MISSING" */
    private static void traysMissing() {
        SlotCoins x = new SlotCoins();
        x.sort(1, 0, 9);
        for (int t = 0; t < 4; t++) {
            int tray = t;
            Check.refused("new write " + t, IllegalStateException.class, () -> x.write(tray, 0, 0));
            Check.refused("new pour " + t, IllegalStateException.class, () -> x.pour(tray, 0));
        }
    }

    /** Promise 1: "an empty tape." */
    private static void emptyTape() {
        SlotCoins x = new SlotCoins();
        Check.due("new tape", x.count(6), 0);
        Check.bad("no byte there", () -> x.text(1));
        Check.due("the first twenty", x.feed(0, 0, 0, 0, 0), 20);
    }

    /** Promise 2: "A SORT more: its number" and "SORTS, at most 8, numbered as they come" */
    private static void numberedAsTheyCome() {
        SlotCoins x = new SlotCoins();
        for (int k = 0; k < 8; k++) {
            Check.due("sorts before", x.count(0), k);
            Check.due("sort " + k, x.sort(5, 0, 9), k);
        }
        Check.due("sorts", x.count(0), 8);
    }

    /** Promise 2: "NONE if there are 8." */
    private static void ninthSort() {
        SlotCoins x = eight();
        Check.due("a ninth", x.sort(100, 20, 30), -1);
        Check.due("a tenth", x.sort(0, 0, 0), -1);
        Check.due("still eight", x.count(0), 8);
        Check.due("the last is as it was", x.made(8), 8);
        Check.due("nothing of 100", x.lacks(x.offer(1), 0), 200);
        x.set(0, 20);
        Check.due("no days of the ninth", x.made(1), -1);
        Edges.changesNothing("a ninth sort", EdgesOfCoinsTest::eightDays, y -> y.sort(100, 0, 9));
        Edges.changesNothing("a ninth slug", EdgesOfCoinsTest::eightDays, y -> y.sort(0, 0, 0));
    }

    /** Promise 2: "IllegalArgumentException: VALUE, DAYS (from above to)." */
    private static void valuesAndDaysRefused() {
        SlotCoins x = new SlotCoins();
        Edges.badBut("value", 0, 200, v -> x.sort(v, 0, 9));
        Edges.badBut("from", 0, 999, v -> x.sort(1, v, 999));
        Edges.badBut("to", 0, 999, v -> x.sort(1, 0, v));
        Check.bad("from 1 above to", () -> x.sort(1, 1, 0));
        Check.bad("from 999 above 998", () -> x.sort(1, 999, 998));
        Check.bad("both above", () -> x.sort(1, 1000, 1000));
        Check.bad("both below", () -> x.sort(1, -1, -1));
        Check.due("none of them is there", x.count(0), 0);
        SlotCoins y = eight();
        Check.bad("a ninth with a wrong value", () -> y.sort(201, 0, 9));
    }

    /** Promise 2: "a VALUE (0 to 200; 0: a slug)" */
    private static void valueBounds() {
        SlotCoins x = new SlotCoins();
        Check.due("0", x.sort(0, 0, 9), 0);
        Check.due("a slug is never good", x.good(0), false);
        Check.due("it makes no price", x.made(1), -1);
        Check.due("1", x.sort(1, 0, 9), 1);
        Check.due("that makes one", x.made(1), 1);
        SlotCoins y = new SlotCoins();
        Check.due("200", y.sort(200, 0, 9), 0);
        Check.due("it is worth 200", y.made(1), 200);
    }

    /** Promise 2: "DAYS from one to one (0 to 999)" */
    private static void dayBounds() {
        SlotCoins x = new SlotCoins();
        Check.due("0 to 0", x.sort(1, 0, 0), 0);
        Check.due("999 to 999", x.sort(1, 999, 999), 1);
        Check.due("0 to 999", x.sort(1, 0, 999), 2);
        Check.due("one day", x.sort(1, 500, 500), 3);
        int[] days = {0, 1, 499, 500, 501, 998, 999};
        boolean[] first = {true, false, false, false, false, false, false};
        boolean[] last = {false, false, false, false, false, false, true};
        boolean[] one = {false, false, false, true, false, false, false};
        for (int i = 0; i < days.length; i++) {
            x.set(0, days[i]);
            Check.due("0 to 0 on " + days[i], x.good(0), first[i]);
            Check.due("999 to 999 on " + days[i], x.good(1), last[i]);
            Check.due("0 to 999 on " + days[i], x.good(2), true);
            Check.due("500 on " + days[i], x.good(3), one[i]);
        }
    }

    /** Promise 3: "A SPAN of a SORT." */
    private static void spanOfOneMeasure() {
        SlotCoins x = eight();
        x.span(7, 0, 10, 19);
        Check.due("weight", x.coins(7), 10);
        x.span(7, 1, 50, 52);
        Check.due("width", x.coins(7), 30);
        x.span(7, 2, 97, 98);
        Check.due("ring", x.coins(7), 60);
        x.span(7, 0, 3, 3);
        Check.due("told anew", x.coins(7), 6);
        Check.due("another sort", x.coins(6), 1);
        Check.due("its least", x.put(7, 3, 50, 97, 3), 7);
        Check.due("its greatest", x.put(7, 3, 52, 98, 3), 7);
        Check.bad("out of it", () -> x.put(7, 3, 49, 97, 3));
    }

    /** Promise 3: "a SPAN from a to b of each MEASURE (0 weight, 1 width, 2 ring; 0 to 99" */
    private static void spanBounds() {
        SlotCoins x = new SlotCoins();
        x.sort(1, 0, 9);
        for (int m = 0; m < 3; m++) {
            x.span(0, m, 99, 99);
            Check.due("99 to 99 " + m, x.coins(0), 1);
            x.span(0, m, 0, 0);
            Check.due("0 to 0 " + m, x.coins(0), 1);
            x.span(0, m, 0, 99);
            Check.due("0 to 99 " + m, x.coins(0), 100);
            x.span(0, m, 0, 0);
        }
    }

    /** Promise 3: "0 to 0 at first" */
    private static void spansAtFirst() {
        SlotCoins x = new SlotCoins();
        x.sort(1, 0, 9);
        Check.due("one coin", x.coins(0), 1);
        Check.due("that of 0 0 0", x.put(0, 0, 0, 0, 3), 0);
        Check.bad("weight 1", () -> x.put(0, 1, 0, 0, 3));
        Check.bad("width 1", () -> x.put(0, 0, 1, 0, 3));
        Check.bad("ring 1", () -> x.put(0, 0, 0, 1, 3));
    }

    /** Promise 3: "NoSuchElementException: no such SORT (as everywhere)" */
    private static void noSuchSort() {
        noSort(new SlotCoins(), 0);
        SlotCoins two = new SlotCoins();
        two.sort(1, 0, 9);
        two.sort(2, 0, 9);
        noSort(two, 2);
        noSort(eight(), 8);
    }

    private static void noSort(SlotCoins x, int many) {
        IntConsumer[] calls = {
            k -> x.span(k, 0, 0, 0), k -> x.wear(k, 0), k -> x.flow(k, 0), k -> x.good(k), k -> x.coins(k),
            k -> x.passes(k, -1), k -> x.wrong(k), k -> x.put(k, 0, 0, 0, 3), k -> x.tube(k, 0), k -> x.bag(k),
            k -> x.empty(k), k -> x.wheel(k, 0), k -> x.load(k, 0, 1),
        };
        String[] names = {"span", "wear", "flow", "good", "coins", "passes", "wrong", "put", "tube", "bag", "empty",
            "wheel", "load"};
        for (int i = 0; i < calls.length; i++) {
            Edges.noneBut(names[i] + " of " + many + " sorts:", many, calls[i]);
        }
    }

    /** Promise 3: "NoSuchElementException: no such SORT (as everywhere), MEASURE" */
    private static void noSuchMeasure() {
        SlotCoins x = new SlotCoins();
        x.sort(1, 0, 9);
        x.sort(2, 0, 9);
        Edges.noneBut("measure", 3, m -> x.span(0, m, 5, 9));
        Check.due("no other sort's span", x.coins(1), 1);
        Check.due("nor its own", x.coins(0), 1);
    }

    /** Promise 3: "IllegalArgumentException: a, b." */
    private static void spanRefused() {
        SlotCoins x = new SlotCoins();
        x.sort(1, 0, 9);
        for (int m = 0; m < 3; m++) {
            int measure = m;
            x.span(0, m, 40, 49);
            Edges.badBut("a " + m, 0, 99, a -> x.span(0, measure, a, 99));
            Edges.badBut("b " + m, 0, 99, b -> x.span(0, measure, 0, b));
            Check.bad("a above b", () -> x.span(0, measure, 1, 0));
            Check.bad("99 above 98", () -> x.span(0, measure, 99, 98));
            Check.bad("both above", () -> x.span(0, measure, 100, 100));
            Check.bad("both below", () -> x.span(0, measure, -1, -1));
            Check.due("as it was", x.coins(0), 10);
            x.span(0, m, 0, 0);
        }
    }

    /** Promise 4: "WEAR of a SORT: what it was." */
    private static void wearWas() {
        SlotCoins x = eight();
        Check.due("0 at first", x.wear(7, 9), 0);
        Check.due("then", x.wear(7, 0), 9);
        Check.due("then", x.wear(7, 4), 0);
        Check.due("another sort's is its own", x.wear(6, 1), 0);
        Check.due("and stays", x.wear(7, 4), 4);
    }

    /** Promise 4: "a WEAR (0 to 9)" */
    private static void wearBounds() {
        SlotCoins x = eight();
        x.wear(0, 5);
        Edges.badBut("wear", 0, 9, v -> x.wear(0, v));
        Check.due("kept", x.wear(0, 9), 5);
        Check.due("9 is one", x.wear(0, 0), 9);
        Check.due("0 is one", x.wear(0, 1), 0);
    }

    /** Promise 5: "FLOW of a SORT: what it was." */
    private static void flowWas() {
        SlotCoins x = eight();
        Check.due("0 at first", x.flow(7, 1000), 0);
        Check.due("then", x.flow(7, 0), 1000);
        Check.due("then", x.flow(7, 33), 0);
        Check.due("another sort's is its own", x.flow(6, 1), 0);
        Check.due("and stays", x.flow(7, 33), 33);
    }

    /** Promise 5: "a FLOW (0 to 1000; 0 both at first)" */
    private static void flowBounds() {
        SlotCoins x = eight();
        Check.due("flow at first", x.flow(0, 5), 0);
        Check.due("wear at first", x.wear(0, 5), 0);
        Edges.badBut("flow", 0, 1000, v -> x.flow(0, v));
        Check.due("kept", x.flow(0, 1000), 5);
        Check.due("1000 is one", x.flow(0, 0), 1000);
        Check.due("0 is one", x.flow(0, 1), 0);
    }

    /** Promise 6: "What 0 DAY, 1 AGE, 2 WARMTH, 3 REFUSAL is told: what it was." */
    private static void settingsWere() {
        SlotCoins x = new SlotCoins();
        int[] one = {999, 20, -10, 999};
        int[] other = {7, 8, 9, 6};
        int[] first = {0, 0, 0, 10};
        for (int w = 0; w < 4; w++) {
            Check.due("set " + w, x.set(w, one[w]), first[w]);
        }
        for (int w = 0; w < 4; w++) {
            Check.due("set again " + w, x.set(w, other[w]), one[w]);
        }
        for (int w = 0; w < 4; w++) {
            Check.due("set once more " + w, x.set(w, other[w]), other[w]);
        }
    }

    /** Promise 6: "AGE (0 to 20) and WARMTH (-10 to 10) are told, 0 at first." */
    private static void settingsAtFirst() {
        SlotCoins x = new SlotCoins();
        Check.due("age at first", x.set(1, 0), 0);
        Check.due("warmth at first", x.set(2, 0), 0);
        Check.due("age 20", x.set(1, 20), 0);
        Check.due("age 0", x.set(1, 0), 20);
        Check.due("warmth 10", x.set(2, 10), 0);
        Check.due("warmth -10", x.set(2, -10), 10);
        Check.due("both stand", x.set(2, 0), -10);
        Check.bad("age 21", () -> x.set(1, 21));
        Check.bad("age -1", () -> x.set(1, -1));
        Check.bad("warmth 11", () -> x.set(2, 11));
        Check.bad("warmth -11", () -> x.set(2, -11));
    }

    /** Promise 6: "REFUSAL (0 to 999, 10 at first)" */
    private static void refusalAtFirst() {
        SlotCoins x = new SlotCoins();
        Check.due("10 at first", x.set(3, 999), 10);
        Check.due("999", x.set(3, 0), 999);
        Check.due("0", x.set(3, 0), 0);
        Check.bad("1000", () -> x.set(3, 1000));
        Check.bad("-1", () -> x.set(3, -1));
        SlotCoins y = new SlotCoins();
        y.sort(5, 0, 9);
        Check.due("a refused coin costs 10", y.wrong(0), 10000000);
        y.set(3, 0);
        Check.due("or nothing", y.wrong(0), 0);
        y.set(3, 999);
        Check.due("or 999", y.wrong(0), 999000000);
    }

    /** Promise 6: "NoSuchElementException: another what" */
    private static void anotherSetting() {
        SlotCoins x = new SlotCoins();
        Edges.noneBut("set", 4, what -> x.set(what, 0));
        Edges.noneBut("set, and a number out of all bounds,", 4, what -> x.set(what, 100000));
    }

    /** Promise 6: "IllegalArgumentException: the number (DAY 0 to 999)." */
    private static void settingsRefused() {
        SlotCoins x = new SlotCoins();
        int[] low = {0, 0, -10, 0};
        int[] high = {999, 20, 10, 999};
        for (int w = 0; w < 4; w++) {
            int what = w;
            x.set(w, 5);
            Edges.badBut("set " + w, low[w], high[w], v -> x.set(what, v));
            Check.due("as it was", x.set(w, high[w]), 5);
            Check.due("the greatest", x.set(w, low[w]), high[w]);
            Check.due("the least", x.set(w, 5), low[w]);
        }
    }

    /** Promise 7: "a SORT is GOOD, if its VALUE is above 0" */
    private static void goodAboveZero() {
        SlotCoins x = new SlotCoins();
        x.sort(0, 0, 999);
        x.sort(1, 0, 999);
        x.sort(200, 0, 999);
        Check.due("0", x.good(0), false);
        Check.due("1", x.good(1), true);
        Check.due("200", x.good(2), true);
    }

    /** Promise 7: "Whether a SORT is GOOD." and "and DAY is one of its DAYS." */
    private static void goodOnItsDays() {
        SlotCoins x = new SlotCoins();
        x.sort(5, 100, 200);
        int[] days = {0, 99, 100, 101, 199, 200, 201, 999};
        boolean[] due = {false, false, true, true, true, true, false, false};
        for (int i = 0; i < days.length; i++) {
            x.set(0, days[i]);
            Check.due("on day " + days[i], x.good(0), due[i]);
        }
    }

    /** Promise 7: "DAY (0 at first)" */
    private static void dayAtFirst() {
        SlotCoins x = new SlotCoins();
        x.sort(5, 0, 0);
        x.sort(5, 1, 999);
        Check.due("day 0", x.good(0), true);
        Check.due("not day 1", x.good(1), false);
        Check.due("told", x.set(0, 1), 0);
        Check.due("then not 0", x.good(0), false);
        Check.due("but 1", x.good(1), true);
    }
}
