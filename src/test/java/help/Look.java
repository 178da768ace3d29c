import java.util.function.LongSupplier;

/**
 * All that can be seen of an object, a line each. The object is used up by that: tape, trays and images show
 * only by calls that change.
 */
final class Look {
    /** An object serves 512 calls; what made it took the others. */
    private static final int MOST_CALLS = 320;

    private final SlotCoins x;
    private final StringBuilder seen = new StringBuilder();
    private int calls = 0;

    private Look(SlotCoins x) {
        this.x = x;
    }

    static String at(SlotCoins x) {
        Look look = new Look(x);
        look.all();
        if (look.calls > MOST_CALLS) {
            throw new AssertionError("looking took " + look.calls + " calls");
        }
        return look.seen.toString();
    }

    private void see(String call, LongSupplier asked) {
        calls++;
        String got;
        try {
            got = Long.toString(asked.getAsLong());
        } catch (RuntimeException e) {
            got = e.getClass().getSimpleName();
        }
        seen.append(call).append(" is ").append(got).append('\n');
    }

    private static long one(boolean holds) {
        return holds ? 1 : 0;
    }

    private void all() {
        counts();
        int sorts = x.count(0);
        for (int k = 0; k < sorts; k++) {
            sort(k);
        }
        coins();
        goods();
        settings();
        rest();
        gates();
        slide();
        tubes(sorts);
        days();
        tape();
        images();
        trays(sorts);
    }

    private void counts() {
        for (int what = 0; what < 8; what++) {
            int w = what;
            see("count " + w, () -> x.count(w));
        }
        see("fault 0", () -> x.fault(0));
        see("fault 1", () -> x.fault(1));
        see("credit", () -> x.credit());
        for (int i = 0; i < 6; i++) {
            int at = i;
            see("given " + i, () -> x.given(at));
        }
    }

    private void sort(int k) {
        see("good " + k, () -> one(x.good(k)));
        see("coins " + k, () -> x.coins(k));
        see("refused " + k, () -> x.passes(k, -1));
        see("passes as itself " + k, () -> x.passes(k, k));
        see("wrong " + k, () -> x.wrong(k));
        see("bag " + k, () -> x.bag(k));
        see("height " + k, () -> x.tube(k, 0));
        see("strangers " + k, () -> x.tube(k, 1));
        see("top " + k, () -> x.tube(k, 2));
        see("wheel " + k, () -> x.wheel(k, 0));
        see("due " + k, () -> x.wheel(k, 1));
        see("there " + k, () -> x.wheel(k, 2));
        see("wear " + k, () -> x.wear(k, 0));
        see("unworn coins " + k, () -> x.coins(k));
        see("flow " + k, () -> x.flow(k, 1));
    }

    private void coins() {
        for (int i = 0; i < 5; i++) {
            int v = 10 * i + 5;
            see("taken " + v, () -> x.taken(v, v, v));
        }
    }

    private void goods() {
        for (int good = 0; good < x.count(2); good++) {
            int g = good;
            see("price " + g, () -> x.price(g, 10));
            see("lacks " + g, () -> x.lacks(g, 0));
        }
        see("made 1", () -> x.made(1));
    }

    private void settings() {
        for (int what = 0; what < 4; what++) {
            int w = what;
            see("set " + w, () -> x.set(w, 0));
        }
    }

    private void rest() {
        for (int what = 0; what < 3; what++) {
            int w = what;
            see("explain " + w, () -> x.explain(w));
            see("most " + w, () -> x.most(w + 1));
        }
        for (int buyer = 0; buyer < x.count(4); buyer++) {
            int b = buyer;
            see("serve " + b, () -> x.serve(1, b));
        }
        see("rounds 8", () -> x.rounds(8, -1));
        see("rounds 2", () -> x.rounds(2, -1));
        see("filled", () -> x.rounds(8, 3));
        for (int kind = 0; kind < 4; kind++) {
            int k = kind;
            see("cost " + k, () -> x.cost(k, 0));
        }
    }

    private void gates() {
        for (int gate = 0; gate < x.count(1); gate++) {
            int g = gate;
            for (int what = 0; what < 3; what++) {
                int w = what;
                see("gate " + g + " " + w, () -> x.gate(g, w));
            }
            see("loss " + g, () -> x.loss(g, 1, 0));
        }
    }

    private void slide() {
        see("refund", () -> x.refund());
        for (int i = 0; i < 12; i++) {
            int at = i;
            see("given back " + i, () -> x.given(at));
        }
    }

    /** The coins of each tube come to the bag, where they are counted by their sorts. */
    private void tubes(int sorts) {
        for (int tube = 0; tube < sorts; tube++) {
            int t = tube;
            see("wheel behind a refund " + t, () -> x.wheel(t, 0));
            see("emptied " + t, () -> x.empty(t));
            for (int k = 0; k < Math.min(sorts, 3); k++) {
                int sort = k;
                see("then bag " + k, () -> x.bag(sort));
            }
        }
    }

    /** What VALUES there are on which DAYS. */
    private void days() {
        for (int day = 0; day < 10; day++) {
            int d = day;
            see("day " + day, () -> x.set(0, d));
            see("then made", () -> x.made(1));
            see("and more", () -> x.made(50));
        }
    }

    private void tape() {
        see("text of all", () -> x.text(x.count(6)));
        see("its fault", () -> x.fault(0));
        see("its place", () -> x.fault(1));
        see("its gates", () -> x.count(1));
    }

    private void images() {
        for (int image = 0; image < 3; image++) {
            int i = image;
            see("restore " + i, () -> {
                x.restore(i);
                return 0;
            });
            for (int what = 0; what < 8; what++) {
                int w = what;
                see("then count " + w, () -> x.count(w));
            }
            see("then tube", () -> x.tube(0, 0));
            see("then price", () -> x.price(0, 10));
        }
    }

    /** The tubes are emptied one by one, so that a tray that is poured shows alone. */
    private void trays(int sorts) {
        while (x.count(0) < Math.min(sorts, 3)) {
            see("sort", () -> x.sort(0, 0, 0));
        }
        for (int tray = 0; tray < 4; tray++) {
            int t = tray;
            see("empty", () -> x.empty(0));
            see("pour " + t, () -> x.pour(t, 0));
            see("poured strangers " + t, () -> x.tube(0, 1));
            see("poured top " + t, () -> x.tube(0, 2));
            see("write " + t, () -> x.write(t, 0, 0x1234567890ABCDEFL));
        }
    }
}
