import java.util.function.Consumer;
import java.util.function.IntConsumer;
import java.util.function.Supplier;

/** What the tests of boundary cases share. */
final class Edges {
    /**
     * Numbers that no row of the document has a place for. Some of them, multiplied by 3, 4, 5 or 20, wrap
     * around to a small number: a place in a row, if only that were looked at.
     */
    static final int[] NOWHERE = {-1, -2, -100, 8, 9, 100, 1000, 1 << 30, 1431655766, 858993460, 214748365,
        Integer.MAX_VALUE, Integer.MIN_VALUE, Integer.MIN_VALUE + 1};
    /** Numbers that no call takes, for they are out of all bounds. */
    static final int[] FAR = {Integer.MIN_VALUE, Integer.MIN_VALUE + 1, -1000000, 1000000, Integer.MAX_VALUE - 1, Integer.MAX_VALUE};
    /** A GATE of 32 bytes, by which all COINS are refused. */
    static final String SHUT = "gate ring 0 99 yes back no back;";

    private Edges() {
    }

    /** NoSuchElementException is due for each number that is no place of a row of so many. */
    static void noneBut(String call, int many, IntConsumer asked) {
        Check.none(call + " " + many, () -> asked.accept(many));
        for (int i : NOWHERE) {
            if (i < 0 || i >= many) {
                Check.none(call + " " + i, () -> asked.accept(i));
            }
        }
    }

    /** IllegalArgumentException is due for the numbers next to the bounds, and for those far from them. */
    static void badBut(String call, int low, int high, IntConsumer asked) {
        Check.bad(call + " " + (low - 1), () -> asked.accept(low - 1));
        Check.bad(call + " " + (high + 1), () -> asked.accept(high + 1));
        for (int v : FAR) {
            Check.bad(call + " " + v, () -> asked.accept(v));
        }
    }

    /** Two objects are made alike; one makes a call more, behind which both must show the same. */
    static void changesNothing(String call, Supplier<SlotCoins> made, Consumer<SlotCoins> more) {
        SlotCoins with = made.get();
        try {
            more.accept(with);
        } catch (RuntimeException e) {
            // Which one it is, other tests say.
        }
        String got = Look.at(with);
        String due = Look.at(made.get());
        Check.due(call + " changes nothing" + firstDifference(got, due), got.equals(due), true);
    }

    /** The same, and a call more is seen to change something: or it would be no test. */
    static void changes(String call, Supplier<SlotCoins> made, Consumer<SlotCoins> more) {
        SlotCoins with = made.get();
        more.accept(with);
        Check.due(call + " changes something", Look.at(with).equals(Look.at(made.get())), false);
    }

    private static String firstDifference(String got, String due) {
        String[] g = got.split("\n");
        String[] d = due.split("\n");
        for (int i = 0; i < Math.min(g.length, d.length); i++) {
            if (!g[i].equals(d[i])) {
                return " (" + g[i] + ", due is " + d[i] + ")";
            }
        }
        return "";
    }
}
