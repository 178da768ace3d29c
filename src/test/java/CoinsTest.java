/** Promises 1 to 7. */
public final class CoinsTest {
    public static void main(String[] args) {
        newObject();
        sorts();
        spans();
        wearAndFlow();
        settings();
        goodness();
        Check.end();
    }

    private static void newObject() {
        SlotCoins x = new SlotCoins();
        for (int what = 0; what <= 7; what++) {
            Check.due("new count " + what, x.count(what), 0);
        }
        Check.due("new fault 0", x.fault(0), 0);
        Check.due("new fault 1", x.fault(1), -1);
        Check.due("new credit", x.credit(), 0);
        Check.due("new given", x.given(0), -1);
        Check.due("new explain", x.explain(0), 0);
        Check.due("new most", x.most(3), 0);
        Check.due("new rounds", x.rounds(8, 0), -1);
        Check.due("new made", x.made(1), -1);
        Check.due("new taken", x.taken(0, 0, 0), -1);
        for (int t = 0; t < 4; t++) {
            int tray = t;
            Check.refused("new tray is missing", IllegalStateException.class, () -> x.write(tray, 0, 1));
        }
        for (int i = 0; i < 3; i++) {
            int image = i;
            Check.refused("new image", IllegalStateException.class, () -> x.restore(image));
        }
        Check.due("NONE", SlotCoins.NONE, -1);
    }

    private static void sorts() {
        SlotCoins x = new SlotCoins();
        Check.bad("value below", () -> x.sort(-1, 0, 0));
        Check.bad("value above", () -> x.sort(201, 0, 0));
        Check.bad("from below", () -> x.sort(1, -1, 0));
        Check.bad("to above", () -> x.sort(1, 0, 1000));
        Check.bad("from above to", () -> x.sort(1, 6, 5));
        Check.bad("extremes", () -> x.sort(Integer.MIN_VALUE, Integer.MAX_VALUE, Integer.MIN_VALUE));
        Check.due("nothing added", x.count(0), 0);
        Check.due("first", x.sort(0, 0, 0), 0);
        Check.due("second", x.sort(200, 999, 999), 1);
        for (int k = 2; k < 8; k++) {
            Check.due("sort " + k, x.sort(k, 3, 3), k);
        }
        Check.due("ninth", x.sort(1, 0, 1), -1);
        Check.bad("ninth, but wrong", () -> x.sort(201, 0, 1));
        Check.due("eight", x.count(0), 8);
    }

    private static void spans() {
        SlotCoins x = new SlotCoins();
        Check.none("no sort", () -> x.span(0, 0, 0, 0));
        x.sort(5, 0, 9);
        Check.due("0 to 0 at first", x.coins(0), 1);
        x.span(0, 0, 0, 99);
        x.span(0, 1, 0, 99);
        x.span(0, 2, 0, 99);
        Check.due("all coins", x.coins(0), 1000000);
        x.span(0, 2, 7, 7);
        x.span(0, 1, 5, 6);
        Check.due("two by one", x.coins(0), 200);
        Check.none("sort 1", () -> x.span(1, 0, 0, 0));
        Check.none("sort -1", () -> x.span(-1, 0, 0, 0));
        Check.none("measure 3", () -> x.span(0, 3, 0, 0));
        Check.none("measure -1, bounds wrong too", () -> x.span(0, -1, 9, 0));
        Check.bad("a below", () -> x.span(0, 0, -1, 0));
        Check.bad("b above", () -> x.span(0, 0, 0, 100));
        Check.bad("a above b", () -> x.span(0, 0, 5, 4));
        Check.due("unchanged", x.coins(0), 200);
        Check.due("no coin of it", x.put(0, 3, 6, 7, 3), 0);
        Check.bad("weight", () -> x.put(0, 100, 6, 7, 3));
    }

    private static void wearAndFlow() {
        SlotCoins x = new SlotCoins();
        Check.none("wear of none", () -> x.wear(0, 10));
        Check.none("flow of none", () -> x.flow(0, 1001));
        x.sort(5, 0, 9);
        Check.due("wear at first", x.wear(0, 9), 0);
        Check.due("wear then", x.wear(0, 3), 9);
        Check.bad("wear above", () -> x.wear(0, 10));
        Check.bad("wear below", () -> x.wear(0, -1));
        Check.due("wear kept", x.wear(0, 3), 3);
        Check.due("flow at first", x.flow(0, 1000), 0);
        Check.due("flow then", x.flow(0, 7), 1000);
        Check.bad("flow above", () -> x.flow(0, 1001));
        Check.bad("flow below", () -> x.flow(0, -1));
        Check.due("flow kept", x.flow(0, 7), 7);
        wornCoins();
    }

    private static void wornCoins() {
        SlotCoins x = new SlotCoins();
        x.sort(5, 0, 9);
        x.span(0, 0, 4, 12);
        x.wear(0, 3);
        x.set(1, 3);
        Check.due("9 by 10 is nothing", x.put(0, 12, 0, 0, 3), 0);
        x.set(1, 4);
        Check.bad("12 by 10 is 1", () -> x.put(0, 12, 0, 0, 3));
        Check.due("from 3 to 11", x.put(0, 3, 0, 0, 3), 0);
        x.set(1, 20);
        Check.due("from 0 to 6", x.coins(0), 7);
        x.wear(0, 9);
        Check.due("all worn to 0", x.coins(0), 1);
        Check.due("a coin of weight 0", x.put(0, 0, 0, 0, 3), 0);
    }

    private static void settings() {
        SlotCoins x = new SlotCoins();
        int[] low = {0, 0, -10, 0};
        int[] high = {999, 20, 10, 999};
        int[] first = {0, 0, 0, 10};
        for (int w = 0; w < 4; w++) {
            int what = w;
            Check.due("set at first " + w, x.set(w, low[w]), first[w]);
            Check.due("set low " + w, x.set(w, high[w]), low[w]);
            Check.bad("set above " + w, () -> x.set(what, high[what] + 1));
            Check.bad("set below " + w, () -> x.set(what, low[what] - 1));
            Check.due("set high " + w, x.set(w, low[w]), high[w]);
        }
        Check.none("set 4", () -> x.set(4, 0));
        Check.none("set -1", () -> x.set(-1, 5000));
    }

    private static void goodness() {
        SlotCoins x = new SlotCoins();
        Check.none("good of none", () -> x.good(0));
        x.sort(0, 0, 999);
        x.sort(1, 3, 5);
        Check.due("a slug", x.good(0), false);
        boolean[] due = {false, true, true, true, false};
        for (int day = 2; day <= 6; day++) {
            x.set(0, day);
            Check.due("day " + day, x.good(1), due[day - 2]);
        }
        Check.none("good of -1", () -> x.good(-1));
        Check.none("good of 2", () -> x.good(2));
    }
}
