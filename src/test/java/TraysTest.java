/** Promises 40 to 45. */
public final class TraysTest {
    public static void main(String[] args) {
        trays();
        writes();
        pours();
        images();
        imagesKeepAll();
        imagesOfOthers();
        counts();
        Check.end();
    }

    private static void trays() {
        SlotCoins x = new SlotCoins();
        Check.none("tray 4", () -> x.tray(4, 9, 99));
        Check.none("tray -1", () -> x.tray(-1, 0, 0));
        Check.bad("sort 4", () -> x.tray(0, 4, 0));
        Check.bad("sort -1", () -> x.tray(0, -1, 0));
        Check.bad("many 21", () -> x.tray(0, 0, 21));
        Check.bad("many -1", () -> x.tray(0, 0, -1));
        Check.refused("still missing", IllegalStateException.class, () -> x.write(0, 0, 0));
        x.tray(0, 0, 0);
        Check.refused("no place", IndexOutOfBoundsException.class, () -> x.write(0, 0, 0));
        x.tray(3, 3, 20);
        Check.due("the last place", x.write(3, 19, 5), 5);
        x.sort(1, 0, 9);
        x.tray(3, 0, 20);
        Check.due("0s anew", x.pour(3, 0), 20);
    }

    private static void writes() {
        SlotCoins x = new SlotCoins();
        long v = 0x123456789ABCDEF0L;
        long[] due = {(byte) 0xF0, (short) 0xDEF0, 0x9ABCDEF0, v};
        for (int s = 0; s < 4; s++) {
            x.tray(s, s, 2);
            Check.due("cut to sort " + s, x.write(s, 1, v), due[s]);
            Check.due("-1", x.write(s, 0, -1), -1);
            int tray = s;
            Check.refused("place 2", IndexOutOfBoundsException.class, () -> x.write(tray, 2, 0));
            Check.refused("place -1", IndexOutOfBoundsException.class, () -> x.write(tray, -1, 0));
        }
        Check.due("127", x.write(0, 0, 127), 127);
        Check.due("128", x.write(0, 0, 128), -128);
        Check.due("256", x.write(0, 0, 256), 0);
        Check.none("tray 4", () -> x.write(4, 99, 0));
        SlotCoins y = new SlotCoins();
        Check.refused("missing, no place", IllegalStateException.class, () -> y.write(0, 99, 0));
    }

    private static void pours() {
        SlotCoins x = new SlotCoins();
        Check.none("tray 4", () -> x.pour(4, 0));
        Check.none("no sort, missing", () -> x.pour(0, 0));
        x.sort(1, 0, 9);
        x.sort(2, 0, 9);
        Check.refused("missing", IllegalStateException.class, () -> x.pour(0, 0));
        x.tray(0, 3, 3);
        x.write(0, 1, 1);
        Check.due("poured", x.pour(0, 1), 3);
        Check.due("strangers", x.tube(1, 1), 2);
        Check.due("the last is on top", x.tube(1, 2), 0);
        Check.due("loaded", x.wheel(1, 1), 3);
        x.write(0, 2, 1L << 32);
        Check.bad("no sort", () -> x.pour(0, 1));
        x.write(0, 2, -1);
        Check.bad("-1", () -> x.pour(0, 1));
        x.load(1, 1, 17);
        Check.bad("no sort, though full", () -> x.pour(0, 1));
        x.write(0, 2, 1);
        Check.due("full", x.pour(0, 1), -1);
        Check.due("nothing is loaded", x.wheel(1, 1), 20);
        x.tray(1, 0, 0);
        Check.due("an empty tray", x.pour(1, 1), 20);
        Check.none("tube 2", () -> x.pour(0, 2));
    }

    private static void images() {
        SlotCoins x = new SlotCoins();
        Check.none("image 3", () -> x.image(3));
        Check.none("image -1", () -> x.image(-1));
        Check.none("restore 3", () -> x.restore(3));
        Check.refused("none made", IllegalStateException.class, () -> x.restore(2));
        x.image(2);
        x.sort(1, 0, 9);
        x.image(0);
        x.sort(2, 0, 9);
        Check.tell(x, "gate");
        x.feed(1, 2, 3, 4, 5);
        x.tray(0, 0, 1);
        x.write(0, 0, 1);
        x.restore(2);
        Check.due("none", x.count(0), 0);
        Check.due("the fault stays", x.fault(0), 2);
        Check.due("its place, too", x.fault(1), 4);
        Check.due("the tape stays", x.count(6), 20);
        Check.due("the tray stays", x.write(0, 0, 2), 2);
        x.restore(0);
        Check.due("one", x.count(0), 1);
        x.sort(3, 0, 9);
        x.restore(0);
        Check.due("as often as you like", x.count(0), 1);
        Check.due("the spans begin anew", x.sort(4, 0, 9), 1);
        Check.due("0 to 0", x.coins(1), 1);
    }

    private static SlotCoins rich() {
        SlotCoins x = new SlotCoins();
        Check.plain(x, 10, 10);
        x.wear(0, 1);
        x.flow(0, 2);
        x.set(3, 11);
        Check.tell(x, "gate weight 0 20 yes take 0 no back;");
        x.offer(10);
        x.load(0, 0, 3);
        x.put(0, 10, 10, 10, 1);
        x.sale(0);
        x.put(0, 10, 10, 10, 0);
        x.put(0, 10, 10, 10, 3);
        x.cost(0, 5);
        x.buyer(0, 0, -1, -1, -1, 4);
        x.machine(2, 3);
        return x;
    }

    private static void imagesKeepAll() {
        SlotCoins x = rich();
        x.image(1);
        x.sort(0, 0, 0);
        x.span(0, 0, 9, 99);
        x.wear(0, 9);
        x.flow(0, 9);
        for (int what = 0; what < 4; what++) {
            x.set(what, 5);
        }
        x.move(0, 30, 30);
        x.offer(99);
        x.price(0, 77);
        x.refund();
        x.empty(0);
        x.cost(0, 99);
        x.buyer(1, 1, -1, -1, -1, 9);
        x.machine(5, 5);
        x.restore(1);
        Check.due("sorts", x.count(0), 1);
        Check.due("coins", x.coins(0), 1);
        Check.due("wear", x.wear(0, 1), 1);
        Check.due("flow", x.flow(0, 2), 2);
        Check.due("day", x.set(0, 0), 0);
        Check.due("age", x.set(1, 0), 0);
        Check.due("warmth", x.set(2, 0), 0);
        Check.due("refusal", x.set(3, 11), 11);
        Check.due("gate", x.gate(0, 2), 20);
        Check.due("taken", x.taken(10, 0, 0), 0);
        Check.due("goods", x.count(2), 1);
        Check.due("price", x.price(0, 10), 10);
        Check.due("tube", x.tube(0, 0), 3);
        Check.due("top", x.tube(0, 2), 0);
        Check.due("bag", x.bag(0), 1);
        Check.due("wheel", x.wheel(0, 0), 2 - 1 + 1);
        Check.due("due", x.wheel(0, 1), 5);
        Check.due("credit", x.credit(), 10);
        Check.due("slide", x.count(3), 1);
        Check.due("given", x.given(0), 0);
        Check.due("given latest", x.count(7), 1);
        Check.due("cost", x.cost(0, 5), 5);
        Check.due("buyers", x.count(4), 1);
        Check.due("most", x.most(1), 4);
        Check.due("machines", x.count(5), 1);
        Check.due("rounds", x.rounds(8, -1), 0);
    }

    /** What was told once comes back, though something else bore its number in between. */
    private static void imagesOfOthers() {
        SlotCoins x = new SlotCoins();
        x.image(0);
        x.sort(10, 2, 5);
        x.offer(10);
        x.buyer(0, 0, 0, -1, -1, 3);
        x.machine(1, 1);
        x.load(0, 0, 2);
        x.set(0, 2);
        x.image(1);
        x.restore(0);
        x.sort(7, 0, 1);
        x.sort(3, 0, 9);
        x.offer(1);
        x.offer(7);
        x.buyer(1, 1, -1, -1, -1, 8);
        x.machine(5, 5);
        Check.due("the other", x.made(1), 3);
        x.restore(1);
        Check.due("value", x.made(1), 10);
        Check.due("days", x.good(0), true);
        x.set(0, 5);
        Check.due("to the last", x.good(0), true);
        Check.due("the buyer, who gets change", x.most(1), 3);
        Check.due("buys the first good", x.price(0, 21), 10);
        Check.due("for two tens", x.most(1), 0);
        x.price(0, 20);
        Check.due("two", x.most(1), 3);
        x.machine(1, 1);
        Check.due("left 1, full 1", x.rounds(2, -1), 1);
    }

    private static void counts() {
        SlotCoins x = rich();
        x.feed(0, 0, 0, 0, 0);
        int[] due = {1, 1, 1, 1, 1, 1, 20, 1};
        for (int what = 0; what < 8; what++) {
            Check.due("count " + what, x.count(what), due[what]);
        }
        Check.due("count 8", x.count(8), -1);
        Check.due("count -1", x.count(-1), -1);
    }
}
