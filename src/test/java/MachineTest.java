/** Promises 19 to 31. */
public final class MachineTest {
    public static void main(String[] args) {
        goods();
        loads();
        puts();
        fullSlide();
        sales();
        slugsAndStrings();
        fewestCoins();
        fullTubes();
        allCoinsGiven();
        dearestChange();
        refunds();
        tubesAndBag();
        lacks();
        lacksAtTheEnd();
        lacksWithout();
        madePrices();
        Check.end();
    }

    /** SORTS 0 to 2 of the values 10, 5, 1 and of the weights 10, 20, 30; SORT 3 is a slug of the weight 10. */
    private static SlotCoins shop() {
        SlotCoins x = new SlotCoins();
        Check.plain(x, 10, 10);
        Check.plain(x, 5, 20);
        Check.plain(x, 1, 30);
        Check.plain(x, 0, 10);
        Check.tell(x, "gate weight 10 10 yes take 0 no next;gate weight 20 20 yes take 1 no next;"
            + "gate weight 30 30 yes take 2 no back;");
        return x;
    }

    private static int right(SlotCoins x, int k) {
        return x.put(k, k == 3 ? 10 : 10 * (k + 1), 10, 10, 0);
    }

    private static void goods() {
        SlotCoins x = new SlotCoins();
        Check.bad("price 0", () -> x.offer(0));
        Check.bad("price 501", () -> x.offer(501));
        for (int g = 0; g < 6; g++) {
            Check.due("good " + g, x.offer(g == 0 ? 500 : 1), g);
        }
        Check.due("a seventh", x.offer(1), -1);
        Check.bad("a wrong seventh", () -> x.offer(0));
        Check.due("price", x.price(0, 1), 500);
        Check.due("price then", x.price(0, 500), 1);
        Check.bad("price 0", () -> x.price(0, 0));
        Check.bad("price 501", () -> x.price(0, 501));
        Check.none("good 6", () -> x.price(6, 0));
        Check.none("good -1", () -> x.price(-1, 1));
    }

    private static void loads() {
        SlotCoins x = shop();
        Check.due("load", x.load(1, 3, 5), 5);
        Check.due("load more", x.load(1, 1, 15), 20);
        Check.due("full", x.load(1, 1, 1), -1);
        Check.due("top", x.tube(1, 2), 1);
        Check.due("strangers", x.tube(1, 1), 5);
        Check.due("loaded", x.wheel(1, 1), 20);
        Check.bad("none", () -> x.load(0, 0, 0));
        Check.bad("21", () -> x.load(0, 0, 21));
        Check.bad("21, into a full one", () -> x.load(1, 0, 21));
        Check.none("tube", () -> x.load(4, 0, 0));
        Check.none("sort", () -> x.load(0, 4, 0));
        Check.none("sort -1", () -> x.load(0, -1, 1));
        Check.due("nothing was loaded", x.tube(0, 0), 0);
    }

    private static void puts() {
        SlotCoins x = shop();
        Check.due("right", x.put(1, 20, 10, 10, 0), 1);
        Check.due("wheel", x.wheel(1, 0), 1);
        Check.due("doubled", x.put(1, 20, 10, 10, 1), 1);
        Check.due("wheel", x.wheel(1, 0), 3);
        Check.due("by string", x.put(0, 10, 10, 10, 2), 0);
        Check.due("wheel", x.wheel(0, 0), 1);
        Check.due("slug", x.put(3, 10, 10, 10, 0), 0);
        Check.due("credit", x.credit(), 5 + 10 + 10 + 10);
        Check.due("slide", x.count(3), 4);
        Check.due("stuck", x.put(3, 10, 10, 10, 3), 3);
        Check.due("in the bag", x.bag(3), 1);
        Check.due("no wheel", x.wheel(3, 0), 0);
        Check.due("not on the slide", x.count(3), 4);
        x.set(0, 0);
        x.span(2, 0, 30, 31);
        Check.due("refused", x.put(2, 31, 10, 10, 1), -1);
        Check.due("stuck all the same", x.put(2, 31, 10, 10, 3), 2);
        Check.due("no wheel", x.wheel(2, 0), 0);
        Check.none("sort", () -> x.put(4, 10, 10, 10, 9));
        Check.none("sort -1", () -> x.put(-1, 10, 10, 10, 0));
        Check.bad("weight", () -> x.put(0, 11, 10, 10, 3));
        Check.bad("width", () -> x.put(0, 10, 9, 10, 3));
        Check.bad("ring", () -> x.put(0, 10, 10, 11, 0));
        Check.bad("way 4", () -> x.put(0, 10, 10, 10, 4));
        Check.bad("way -1", () -> x.put(0, 10, 10, 10, -1));
        x.set(2, 3);
        Check.due("the coin's own ring counts, not what is read", x.put(0, 10, 10, 10, 0), 0);
    }

    private static void fullSlide() {
        SlotCoins x = shop();
        for (int i = 0; i < 12; i++) {
            Check.due("put " + i, x.put(2, 30, 10, 10, i % 3), 2);
        }
        Check.due("twelve", x.count(3), 12);
        Check.due("a thirteenth", x.put(2, 30, 10, 10, 0), -1);
        Check.due("by string", x.put(2, 30, 10, 10, 2), -1);
        Check.due("the wheel stays", x.wheel(2, 0), 16);
        Check.due("stuck", x.put(2, 30, 10, 10, 3), 2);
        Check.due("credit", x.credit(), 16);
    }

    private static void sales() {
        SlotCoins x = shop();
        Check.none("no good", () -> x.sale(0));
        x.offer(12);
        x.offer(15);
        Check.due("nothing in", x.sale(0), -1);
        right(x, 0);
        right(x, 1);
        Check.due("no change of 3", x.sale(0), -1);
        Check.due("nothing is taken", x.credit(), 15);
        Check.due("just so", x.sale(1), 0);
        Check.due("no credit then", x.credit(), 0);
        Check.due("slide", x.count(3), 0);
        Check.due("tube 0", x.tube(0, 0), 1);
        Check.due("tube 1", x.tube(1, 0), 1);
        x.load(2, 2, 4);
        right(x, 0);
        right(x, 1);
        Check.due("change of 3", x.sale(0), 3);
        Check.due("given", x.given(2), 2);
        Check.due("not so many", x.given(3), -1);
        Check.due("given -1", x.given(-1), -1);
        Check.due("count 7", x.count(7), 3);
        Check.due("the wheel falls", x.wheel(2, 0), -3);
        Check.due("one left", x.tube(2, 0), 1);
        right(x, 2);
        Check.due("below the price", x.sale(0), -1);
        Check.due("given as of the latest sale", x.count(7), 3);
        Check.none("good 2", () -> x.sale(2));
        Check.none("good -1", () -> x.sale(-1));
        daysOver();
    }

    private static void daysOver() {
        SlotCoins x = new SlotCoins();
        x.sort(5, 0, 3);
        x.sort(10, 0, 9);
        x.span(1, 0, 9, 9);
        Check.tell(x, "gate weight 9 9 yes take 1 no take 0;");
        x.load(0, 0, 3);
        x.offer(5);
        x.put(1, 9, 0, 0, 0);
        x.set(0, 4);
        Check.due("sort 0 isn't good: no change", x.sale(0), -1);
        x.set(0, 3);
        Check.due("it is", x.sale(0), 1);
    }

    private static void slugsAndStrings() {
        SlotCoins x = shop();
        x.offer(1);
        x.load(0, 1, 1);
        x.load(0, 3, 1);
        x.load(0, 2, 1);
        x.load(2, 2, 9);
        x.put(3, 10, 10, 10, 1);
        x.put(0, 10, 10, 10, 2);
        Check.due("29 of change: coins of tube 0 count 10 each", x.sale(0), 11);
        Check.due("from the top", x.given(0), 2);
        Check.due("then below", x.given(1), 3);
        Check.due("tube 2", x.given(2), 2);
        Check.due("the last", x.given(10), 2);
        Check.due("the slug comes, the string doesn't", x.tube(0, 0), 2);
        Check.due("the top is the slug", x.tube(0, 2), 3);
        Check.due("wheel 0", x.wheel(0, 0), 2 + 1 - 2);
        Check.due("wheel 2", x.wheel(2, 0), -9);
    }

    private static void fewestCoins() {
        SlotCoins x = new SlotCoins();
        Check.plain(x, 4, 10);
        Check.plain(x, 3, 20);
        Check.plain(x, 1, 30);
        Check.plain(x, 2, 40);
        Check.tell(x, "gate weight 10 10 yes take 0 no next;gate weight 20 20 yes take 1 no back;");
        x.load(0, 0, 1);
        x.load(1, 1, 2);
        x.load(2, 2, 5);
        x.load(3, 3, 2);
        x.offer(2);
        x.put(0, 10, 10, 10, 1);
        Check.due("6 of 4+2, 3+3: two, the most of sort 0", x.sale(0), 2);
        Check.due("4", x.given(0), 0);
        Check.due("2", x.given(1), 3);
        Check.due("one in behind it", x.tube(0, 0), 1);
        x.price(0, 5);
        x.put(0, 10, 10, 10, 1);
        Check.due("3 of one", x.sale(0), 1);
        Check.due("3", x.given(0), 1);
    }

    private static void fullTubes() {
        SlotCoins x = shop();
        x.offer(5);
        x.load(0, 0, 20);
        x.load(1, 1, 20);
        right(x, 0);
        right(x, 3);
        Check.due("15 of change", x.sale(0), 2);
        Check.due("one has room", x.tube(0, 0), 20);
        Check.due("the first that lay there", x.tube(0, 2), 0);
        Check.due("the other is in the bag", x.bag(3), 1);
        Check.due("not the right one", x.bag(0), 0);
    }

    /** The dearest CHANGE that can be: every coin of eight full TUBES. */
    private static void allCoinsGiven() {
        SlotCoins x = new SlotCoins();
        for (int k = 0; k < 7; k++) {
            Check.plain(x, 1, 10 + k);
        }
        Check.plain(x, 36, 50);
        Check.tell(x, "gate weight 50 50 yes take 7 no back;");
        for (int k = 0; k < 8; k++) {
            x.load(k, k, 20);
        }
        for (int i = 0; i < 12; i++) {
            x.put(7, 50, 10, 10, 1);
        }
        x.offer(3);
        x.offer(4);
        Check.due("861 is too much", x.sale(0), -1);
        Check.due("860 is all", x.sale(1), 160);
        Check.due("the first", x.given(0), 0);
        Check.due("the last of the ones", x.given(139), 6);
        Check.due("the last", x.given(159), 7);
        Check.due("no more", x.given(160), -1);
        Check.due("twelve in", x.tube(7, 0), 12);
        Check.due("wheel", x.wheel(7, 0), 24 - 20);
    }

    /** The greatest sum that can be above a PRICE. */
    private static void dearestChange() {
        SlotCoins x = new SlotCoins();
        Check.plain(x, 200, 10);
        Check.plain(x, 199, 20);
        Check.plain(x, 200, 30);
        Check.tell(x, "gate weight 10 10 yes take 0 no back;");
        x.load(0, 0, 20);
        x.load(1, 1, 20);
        x.load(2, 2, 20);
        for (int i = 0; i < 12; i++) {
            x.put(0, 10, 10, 10, 1);
        }
        Check.due("credit", x.credit(), 4800);
        x.offer(1);
        Check.due("23 of 200 and one of 199", x.sale(0), 24);
        Check.due("twenty of sort 0", x.given(19), 0);
        Check.due("one of sort 1", x.given(20), 1);
        Check.due("three of sort 2", x.given(21), 2);
    }

    private static void refunds() {
        SlotCoins x = shop();
        Check.due("nothing", x.refund(), 0);
        right(x, 1);
        x.put(0, 10, 10, 10, 2);
        x.put(3, 10, 10, 10, 1);
        Check.due("two coins", x.refund(), 2);
        Check.due("5", x.given(0), 1);
        Check.due("the slug", x.given(1), 3);
        Check.due("no more", x.given(2), -1);
        Check.due("wheel 0", x.wheel(0, 0), 0);
        Check.due("wheel 1", x.wheel(1, 0), 0);
        Check.due("credit", x.credit(), 0);
        Check.due("slide", x.count(3), 0);
        Check.due("again", x.refund(), 0);
        Check.due("nothing given by it", x.count(7), 0);
    }

    private static void tubesAndBag() {
        SlotCoins x = shop();
        Check.due("empty tube", x.tube(0, 2), -1);
        Check.none("tube 4", () -> x.tube(4, 9));
        Check.bad("what 3", () -> x.tube(0, 3));
        Check.bad("what -1", () -> x.tube(0, -1));
        Check.none("bag 4", () -> x.bag(4));
        Check.none("empty 4", () -> x.empty(4));
        Check.due("empty of none", x.empty(0), 0);
        x.load(0, 1, 2);
        x.load(0, 0, 3);
        Check.due("strangers", x.tube(0, 1), 2);
        Check.due("five", x.empty(0), 5);
        Check.due("bag 0", x.bag(0), 3);
        Check.due("bag 1", x.bag(1), 2);
        Check.due("then empty", x.tube(0, 0), 0);
        Check.due("due stays", x.wheel(0, 1), 5);
        Check.due("there", x.wheel(1, 2), 2);
    }

    private static void lacks() {
        SlotCoins x = shop();
        Check.none("no good", () -> x.lacks(0, 3));
        x.offer(7);
        Check.bad("what", () -> x.lacks(0, 3));
        Check.bad("what", () -> x.lacks(0, -1));
        Check.due("all but the price itself", x.lacks(0, 0), 200);
        Check.due("least", x.lacks(0, 1), 8);
        Check.due("in a row", x.lacks(0, 2), 200);
        x.load(0, 3, 20);
        x.load(2, 2, 9);
        Check.due("none up to 200", x.lacks(0, 0), 0);
        Check.due("no least", x.lacks(0, 1), -1);
        Check.due("no row", x.lacks(0, 2), 0);
        x.empty(2);
        x.load(2, 2, 6);
        Check.due("7 8 9 of each ten", x.lacks(0, 0), 60);
        Check.due("7 above", x.lacks(0, 1), 14);
        Check.due("three in a row", x.lacks(0, 2), 3);
    }

    private static void lacksAtTheEnd() {
        SlotCoins x = shop();
        x.offer(3);
        x.load(0, 0, 19);
        x.load(2, 2, 9);
        Check.due("only 200 above", x.lacks(0, 0), 1);
        Check.due("that one", x.lacks(0, 1), 203);
        Check.due("alone", x.lacks(0, 2), 1);
    }

    private static void lacksWithout() {
        SlotCoins x = shop();
        x.offer(500);
        right(x, 0);
        x.load(3, 0, 20);
        Check.due("neither the slide nor a slug's tube", x.lacks(0, 0), 200);
        Check.due("501", x.lacks(0, 1), 501);
    }

    private static void madePrices() {
        SlotCoins x = new SlotCoins();
        Check.bad("0", () -> x.made(0));
        Check.bad("1001", () -> x.made(1001));
        Check.due("none", x.made(1), -1);
        x.sort(0, 0, 9);
        Check.due("a slug makes none", x.made(1), -1);
        x.sort(6, 0, 3);
        x.sort(10, 0, 9);
        Check.due("from 1", x.made(1), 6);
        Check.due("from 7", x.made(7), 10);
        Check.due("from 13", x.made(13), 16);
        Check.due("999", x.made(999), 1000);
        x.set(0, 4);
        Check.due("only tens", x.made(991), 1000);
        Check.due("twenty", x.made(11), 20);
        SlotCoins y = new SlotCoins();
        y.sort(3, 0, 9);
        Check.due("999 is the last", y.made(999), 999);
        Check.due("none behind it", y.made(1000), -1);
    }
}
