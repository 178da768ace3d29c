import java.util.NoSuchElementException;
import java.util.function.Consumer;

/** Which throw comes of several, and that a call that throws changes nothing: for each promise that throws. */
public final class EdgesOfThrowsTest {
    private static final Class<? extends RuntimeException> NO_SUCH = NoSuchElementException.class;
    private static final Class<? extends RuntimeException> BAD = IllegalArgumentException.class;
    private static final Class<? extends RuntimeException> STATE = IllegalStateException.class;
    private static final Class<? extends RuntimeException> PLACE = IndexOutOfBoundsException.class;

    public static void main(String[] args) {
        sort();
        span();
        wear();
        flow();
        set();
        good();
        text();
        gate();
        taken();
        coins();
        passes();
        wrong();
        loss();
        best();
        move();
        offer();
        price();
        load();
        put();
        sale();
        tube();
        bag();
        empty();
        lacks();
        made();
        wheel();
        cost();
        explain();
        buyer();
        most();
        serve();
        machine();
        rounds();
        tray();
        write();
        pour();
        image();
        restore();
        Check.end();
    }

    /** Something of all that can be told; TRAY 0 holds SORTS, 1 a number that is none, 2 nothing, 3 is MISSING. */
    private static SlotCoins rich() {
        SlotCoins x = new SlotCoins();
        x.sort(1, 0, 9);
        x.image(2);
        x.sort(10, 0, 9);
        x.sort(0, 0, 9);
        x.span(1, 0, 5, 9);
        x.span(2, 0, 9, 9);
        x.wear(1, 1);
        x.flow(1, 4);
        x.set(0, 1);
        x.set(1, 2);
        x.set(2, 3);
        x.set(3, 4);
        Check.tell(x, "gate weight 0 50 yes take 1 no next;gate ring 5 60 yes take 0 no back;");
        Check.tell(x, "gate ring 2 1");
        Check.feedAll(x, Edges.SHUT);
        x.offer(9);
        x.offer(500);
        x.load(0, 0, 12);
        x.load(1, 0, 3);
        x.load(2, 1, 20);
        x.put(1, 5, 0, 0, 1);
        x.put(2, 9, 0, 0, 0);
        x.sale(0);
        x.put(1, 6, 0, 0, 0);
        x.put(2, 9, 0, 0, 2);
        x.put(1, 6, 0, 0, 3);
        x.cost(2, 5);
        x.buyer(0, 1, -1, -1, -1, 4);
        x.buyer(1, 1, 1, -1, -1, 5);
        x.machine(2, 3);
        x.machine(0, 1);
        x.tray(0, 0, 3);
        x.write(0, 1, 2);
        x.tray(1, 3, 2);
        x.write(1, 1, 1L << 32);
        x.tray(2, 2, 0);
        x.image(0);
        return x;
    }

    private static void thrown(String call, Class<? extends RuntimeException> due, Consumer<SlotCoins> asked) {
        Check.refused(call, due, () -> asked.accept(rich()));
        Edges.changesNothing(call, EdgesOfThrowsTest::rich, asked);
    }

    /** Promise 2: "A call that throws changes nothing." */
    private static void sort() {
        thrown("value", BAD, x -> x.sort(201, 0, 9));
        thrown("value", BAD, x -> x.sort(-1, 0, 9));
        thrown("from", BAD, x -> x.sort(1, -1, 9));
        thrown("to", BAD, x -> x.sort(1, 0, 1000));
        thrown("from above to", BAD, x -> x.sort(1, 9, 0));
    }

    /** Promise 3: "Of several throws of a call that one comes that is told first." and "A call that throws changes nothing." */
    private static void span() {
        thrown("sort, measure, a", NO_SUCH, x -> x.span(3, 3, 100, 0));
        thrown("sort, a", NO_SUCH, x -> x.span(3, 0, -1, 0));
        thrown("measure, a", NO_SUCH, x -> x.span(1, 3, -1, 0));
        thrown("measure, a above b", NO_SUCH, x -> x.span(1, -1, 5, 4));
        thrown("measure", NO_SUCH, x -> x.span(1, 3, 1, 2));
        thrown("a", BAD, x -> x.span(1, 0, -1, 50));
        thrown("b", BAD, x -> x.span(1, 1, 50, 100));
        thrown("a above b", BAD, x -> x.span(1, 2, 5, 4));
    }

    /** Promise 4: "Of several throws of a call that one comes that is told first." and "A call that throws changes nothing." */
    private static void wear() {
        thrown("sort, wear", NO_SUCH, x -> x.wear(3, 10));
        thrown("sort", NO_SUCH, x -> x.wear(-1, 1));
        thrown("wear", BAD, x -> x.wear(1, 10));
        thrown("wear", BAD, x -> x.wear(1, -1));
    }

    /** Promise 5: "Of several throws of a call that one comes that is told first." and "A call that throws changes nothing." */
    private static void flow() {
        thrown("sort, flow", NO_SUCH, x -> x.flow(3, 1001));
        thrown("sort", NO_SUCH, x -> x.flow(-1, 1));
        thrown("flow", BAD, x -> x.flow(1, 1001));
        thrown("flow", BAD, x -> x.flow(1, -1));
    }

    /** Promise 6: "Of several throws of a call that one comes that is told first." and "A call that throws changes nothing." */
    private static void set() {
        thrown("what, the number", NO_SUCH, x -> x.set(4, 5000));
        thrown("what", NO_SUCH, x -> x.set(-1, 5));
        int[] high = {1000, 21, 11, 1000};
        int[] low = {-1, -1, -11, -1};
        for (int w = 0; w < 4; w++) {
            int what = w;
            thrown("number of " + w, BAD, x -> x.set(what, high[what]));
            thrown("number of " + w, BAD, x -> x.set(what, low[what]));
        }
    }

    /** Promise 7: "A call that throws changes nothing." */
    private static void good() {
        thrown("good", NO_SUCH, x -> x.good(3));
    }

    /** Promise 9: "A call that throws changes nothing." */
    private static void text() {
        thrown("more than it has", BAD, x -> x.text(41));
        thrown("below 0", BAD, x -> x.text(-1));
        thrown("far more", BAD, x -> x.text(Integer.MAX_VALUE));
    }

    /** Promise 11: "Of several throws of a call that one comes that is told first." and "A call that throws changes nothing." */
    private static void gate() {
        thrown("gate, what", NO_SUCH, x -> x.gate(2, 3));
        thrown("gate", NO_SUCH, x -> x.gate(-1, 0));
        thrown("what", BAD, x -> x.gate(1, 3));
    }

    /** Promise 12: "A call that throws changes nothing." */
    private static void taken() {
        thrown("weight", BAD, x -> x.taken(100, 0, 0));
        thrown("width", BAD, x -> x.taken(0, -1, 0));
        thrown("ring", BAD, x -> x.taken(0, 0, 100));
    }

    /** Promise 13: "A call that throws changes nothing." */
    private static void coins() {
        thrown("coins", NO_SUCH, x -> x.coins(3));
    }

    /** Promise 14: "A call that throws changes nothing." */
    private static void passes() {
        thrown("passes of", NO_SUCH, x -> x.passes(-1, 0));
        thrown("passes as", NO_SUCH, x -> x.passes(0, 3));
    }

    /** Promise 15: "A call that throws changes nothing." */
    private static void wrong() {
        thrown("wrong", NO_SUCH, x -> x.wrong(3));
    }

    /** Promise 16: "Of several throws of a call that one comes that is told first." and "A call that throws changes nothing." */
    private static void loss() {
        thrown("gate, d, e", NO_SUCH, x -> x.loss(2, 100, -100));
        thrown("gate", NO_SUCH, x -> x.loss(-1, 0, 0));
        thrown("d", BAD, x -> x.loss(0, 100, 5));
        thrown("e", BAD, x -> x.loss(0, 5, -100));
    }

    /** Promise 17: "Of several throws of a call that one comes that is told first." and "A call that throws changes nothing." */
    private static void best() {
        thrown("gate, what", NO_SUCH, x -> x.best(2, 3));
        thrown("gate", NO_SUCH, x -> x.best(-1, 0));
        thrown("what", BAD, x -> x.best(0, -1));
    }

    /** Promise 18: "Of several throws of a call that one comes that is told first." and "A call that throws changes nothing." */
    private static void move() {
        thrown("gate, d, e", NO_SUCH, x -> x.move(2, 100, -100));
        thrown("gate", NO_SUCH, x -> x.move(-1, 0, 1));
        thrown("d", BAD, x -> x.move(0, -100, 5));
        thrown("e", BAD, x -> x.move(0, 5, 100));
        thrown("e, and first above second", BAD, x -> x.move(0, 0, -100));
    }

    /** Promise 19: "A call that throws changes nothing." */
    private static void offer() {
        thrown("price 0", BAD, x -> x.offer(0));
        thrown("price 501", BAD, x -> x.offer(501));
    }

    /** Promise 20: "Of several throws of a call that one comes that is told first." and "A call that throws changes nothing." */
    private static void price() {
        thrown("good, price", NO_SUCH, x -> x.price(2, 501));
        thrown("good", NO_SUCH, x -> x.price(-1, 5));
        thrown("price", BAD, x -> x.price(1, 0));
    }

    /** Promise 21: "Of several throws of a call that one comes that is told first." and "A call that throws changes nothing." */
    private static void load() {
        thrown("tube, many", NO_SUCH, x -> x.load(3, 0, 0));
        thrown("sort, many", NO_SUCH, x -> x.load(0, 3, 21));
        thrown("sort into a full tube", NO_SUCH, x -> x.load(2, -1, 1));
        thrown("tube", NO_SUCH, x -> x.load(-1, 0, 1));
        thrown("0", BAD, x -> x.load(0, 0, 0));
        thrown("21", BAD, x -> x.load(0, 0, 21));
    }

    /** Promise 22: "Of several throws of a call that one comes that is told first." and "A call that throws changes nothing." */
    private static void put() {
        thrown("sort, coin, way", NO_SUCH, x -> x.put(3, -1, 100, 0, 4));
        thrown("sort, way", NO_SUCH, x -> x.put(-1, 0, 0, 0, 4));
        thrown("sort, stuck", NO_SUCH, x -> x.put(3, 0, 0, 0, 3));
        for (int w = 0; w < 4; w++) {
            int way = w;
            thrown("weight, way " + w, BAD, x -> x.put(1, 10, 0, 0, way));
            thrown("width, way " + w, BAD, x -> x.put(1, 6, 1, 0, way));
            thrown("ring, way " + w, BAD, x -> x.put(1, 6, 0, 1, way));
        }
        thrown("way", BAD, x -> x.put(1, 6, 0, 0, 4));
        thrown("way", BAD, x -> x.put(1, 6, 0, 0, -1));
    }

    /** Promise 24: "A call that throws changes nothing." */
    private static void sale() {
        thrown("sale", NO_SUCH, x -> x.sale(2));
        thrown("sale", NO_SUCH, x -> x.sale(-1));
    }

    /** Promise 27: "Of several throws of a call that one comes that is told first." and "A call that throws changes nothing." */
    private static void tube() {
        thrown("tube, what", NO_SUCH, x -> x.tube(3, 3));
        thrown("tube", NO_SUCH, x -> x.tube(-1, 2));
        thrown("what", BAD, x -> x.tube(1, 3));
    }

    /** Promise 28: "A call that throws changes nothing." */
    private static void bag() {
        thrown("bag", NO_SUCH, x -> x.bag(3));
    }

    /** Promise 29: "A call that throws changes nothing." */
    private static void empty() {
        thrown("empty", NO_SUCH, x -> x.empty(3));
        thrown("empty", NO_SUCH, x -> x.empty(-1));
    }

    /** Promise 30: "Of several throws of a call that one comes that is told first." and "A call that throws changes nothing." */
    private static void lacks() {
        thrown("good, what", NO_SUCH, x -> x.lacks(2, 3));
        thrown("good", NO_SUCH, x -> x.lacks(-1, 0));
        thrown("what", BAD, x -> x.lacks(1, -1));
    }

    /** Promise 31: "A call that throws changes nothing." */
    private static void made() {
        thrown("0", BAD, x -> x.made(0));
        thrown("1001", BAD, x -> x.made(1001));
    }

    /** Promise 32: "Of several throws of a call that one comes that is told first." and "A call that throws changes nothing." */
    private static void wheel() {
        thrown("sort, what", NO_SUCH, x -> x.wheel(3, 4));
        thrown("sort", NO_SUCH, x -> x.wheel(-1, 0));
        thrown("what", BAD, x -> x.wheel(1, 4));
    }

    /** Promise 33: "Of several throws of a call that one comes that is told first." and "A call that throws changes nothing." */
    private static void cost() {
        thrown("kind, the number", NO_SUCH, x -> x.cost(4, 1000));
        thrown("kind", NO_SUCH, x -> x.cost(-1, 7));
        for (int k = 0; k < 4; k++) {
            int kind = k;
            thrown("number of " + k, BAD, x -> x.cost(kind, 1000));
            thrown("number of " + k, BAD, x -> x.cost(kind, -1));
        }
    }

    /** Promise 34: "A call that throws changes nothing." */
    private static void explain() {
        thrown("what", BAD, x -> x.explain(3));
        thrown("what", BAD, x -> x.explain(-1));
    }

    /** Promise 35: "Of several throws of a call that one comes that is told first." and "A call that throws changes nothing." */
    private static void buyer() {
        thrown("good, sort, chance", NO_SUCH, x -> x.buyer(2, 3, 3, 3, 3, 0));
        thrown("good, chance", NO_SUCH, x -> x.buyer(-1, 0, 0, 0, 0, 10));
        thrown("a, chance", NO_SUCH, x -> x.buyer(0, 3, 0, 0, 0, 10));
        thrown("b, chance", NO_SUCH, x -> x.buyer(0, 0, 3, 0, 0, 0));
        thrown("c, chance", NO_SUCH, x -> x.buyer(0, 0, 0, 3, 0, 0));
        thrown("d, chance", NO_SUCH, x -> x.buyer(0, 0, 0, 0, 3, 0));
        thrown("a", NO_SUCH, x -> x.buyer(0, -1, 0, 0, 0, 1));
        thrown("d", NO_SUCH, x -> x.buyer(0, 0, 0, 0, -2, 1));
        thrown("chance 0", BAD, x -> x.buyer(0, 0, 0, 0, 0, 0));
        thrown("chance 10", BAD, x -> x.buyer(0, 0, -1, 5, 5, 10));
    }

    /** Promise 36: "A call that throws changes nothing." */
    private static void most() {
        thrown("0", BAD, x -> x.most(0));
        thrown("4", BAD, x -> x.most(4));
    }

    /** Promise 37: "Of several throws of a call that one comes that is told first." and "A call that throws changes nothing." */
    private static void serve() {
        thrown("n, buyer", NO_SUCH, x -> x.serve(0, 2));
        thrown("n, buyer", NO_SUCH, x -> x.serve(4, -1));
        thrown("buyer", NO_SUCH, x -> x.serve(1, 2));
        thrown("n", BAD, x -> x.serve(0, 1));
        thrown("n", BAD, x -> x.serve(4, 0));
    }

    /** Promise 38: "A call that throws changes nothing." */
    private static void machine() {
        thrown("left", BAD, x -> x.machine(6, 5));
        thrown("left", BAD, x -> x.machine(-1, 5));
        thrown("full", BAD, x -> x.machine(5, 6));
        thrown("full", BAD, x -> x.machine(5, 0));
    }

    /** Promise 39: "A call that throws changes nothing." */
    private static void rounds() {
        thrown("h", BAD, x -> x.rounds(0, -1));
        thrown("h", BAD, x -> x.rounds(9, 5));
    }

    /** Promise 40: "Of several throws of a call that one comes that is told first." and "A call that throws changes nothing." */
    private static void tray() {
        thrown("tray, sort, many", NO_SUCH, x -> x.tray(4, 4, 21));
        thrown("tray", NO_SUCH, x -> x.tray(-1, 0, 3));
        for (int t = 0; t < 4; t++) {
            int tray = t;
            thrown("sort 4", BAD, x -> x.tray(tray, 4, 5));
            thrown("sort -1", BAD, x -> x.tray(tray, -1, 5));
            thrown("many 21", BAD, x -> x.tray(tray, 0, 21));
            thrown("many -1", BAD, x -> x.tray(tray, 0, -1));
        }
    }

    /** Promise 41: "Of several throws of a call that one comes that is told first." and "A call that throws changes nothing." */
    private static void write() {
        thrown("tray, place", NO_SUCH, x -> x.write(4, -1, 0));
        thrown("tray", NO_SUCH, x -> x.write(-1, 0, 0));
        thrown("missing, place", STATE, x -> x.write(3, 20, 0));
        thrown("missing, place", STATE, x -> x.write(3, -1, 0));
        thrown("missing", STATE, x -> x.write(3, 0, 0));
        thrown("place 3", PLACE, x -> x.write(0, 3, 1));
        thrown("place -1", PLACE, x -> x.write(0, -1, 1));
        thrown("place 0 of none", PLACE, x -> x.write(2, 0, 1));
    }

    /** Promise 42: "Of several throws of a call that one comes that is told first." and "A call that throws changes nothing." */
    private static void pour() {
        thrown("tray, tube", NO_SUCH, x -> x.pour(4, 3));
        thrown("tray", NO_SUCH, x -> x.pour(-1, 0));
        thrown("missing, tube", NO_SUCH, x -> x.pour(3, 3));
        thrown("no sort, tube", NO_SUCH, x -> x.pour(1, -1));
        thrown("tube", NO_SUCH, x -> x.pour(0, 3));
        thrown("missing", STATE, x -> x.pour(3, 0));
        thrown("missing, a full tube", STATE, x -> x.pour(3, 2));
        thrown("no sort", BAD, x -> x.pour(1, 0));
        thrown("no sort, a full tube", BAD, x -> x.pour(1, 2));
    }

    /** Promise 43: "A call that throws changes nothing." */
    private static void image() {
        thrown("image", NO_SUCH, x -> x.image(3));
        thrown("image", NO_SUCH, x -> x.image(-1));
    }

    /** Promise 44: "Of several throws of a call that one comes that is told first." and "A call that throws changes nothing." */
    private static void restore() {
        thrown("restore", NO_SUCH, x -> x.restore(3));
        thrown("restore", NO_SUCH, x -> x.restore(-1));
        thrown("none made", STATE, x -> x.restore(1));
    }
}
