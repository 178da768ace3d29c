/** Boundary cases of the promises 19 to 31, and of the Terms that they use: a test for each sentence. */
public final class EdgesOfMachineTest {
    public static void main(String[] args) {
        goodsAsTheyCome();
        seventhGood();
        offersRefused();
        priceWas();
        pricesRefused();
        noSuchGood();
        loadsOfOneToTwenty();
        loadsAnother();
        tooMuchToLoad();
        loadOfBoth();
        lastOnTop();
        putAsTaken();
        putRight();
        putDoubled();
        putByString();
        putStuck();
        putRefused();
        fullSlide();
        stuckWithAFullSlide();
        noCoinOfIt();
        noSuchWay();
        wheelsRise();
        creditOfAll();
        priceOrMore();
        changeOfWhatIsAbove();
        changeOutOfGoodSorts();
        changeByValues();
        fewestCoins();
        mostOfFirstSorts();
        greatestChange();
        changeFromTheTops();
        sortBySort();
        slideToTubes();
        fullTubes();
        noSale();
        refundOfNothing();
        refundAsTheyLay();
        wheelsFall();
        givenByTheLatest();
        notSoManyGiven();
        ofATube();
        noSuchTube();
        otherOfATube();
        inTheBag();
        allToTheBag();
        lacksFromPriceOn();
        lacksToTwoHundred();
        lacksInARow();
        otherLacks();
        leastMade();
        anyNumberOfEach();
        madeOfGoodSorts();
        madeToAThousand();
        madeRefused();
        Check.end();
    }

    /** SORTS 0 to 2 of the values 10, 5, 1 and of the weights 10, 20, 30; SORT 3 is a slug of the weight 10. */
    private static SlotCoins shop() {
        SlotCoins x = new SlotCoins();
        Check.plain(x, 10, 10);
        Check.plain(x, 5, 20);
        Check.plain(x, 1, 30);
        Check.plain(x, 0, 10);
        Check.tell(x, "gate weight 10 10 yes take 0 no next;gate weight 20 20 yes take 1 no next;"
            + "gate weight 30 30 yes take 2 no back;");
        return x;
    }

    private static int put(SlotCoins x, int k, int way) {
        return x.put(k, k == 3 ? 10 : 10 * (k + 1), 10, 10, way);
    }

    private static void putMany(SlotCoins x, int k, int way, int many) {
        for (int i = 0; i < many; i++) {
            put(x, k, way);
        }
    }

    private static String given(SlotCoins x) {
        StringBuilder all = new StringBuilder();
        for (int i = 0; i < x.count(7); i++) {
            all.append(x.given(i));
        }
        return all.toString();
    }

    private static void gives(String call, SlotCoins x, int got, String due) {
        Check.due(call, got, due.length());
        Check.due(call + ": latest", x.count(7), due.length());
        Check.due(call + " gives " + given(x) + ", due is " + due, given(x).equals(due), true);
    }

    /** Promise 19: "A GOOD more: its number" */
    private static void goodsAsTheyCome() {
        SlotCoins x = new SlotCoins();
        for (int g = 0; g < 6; g++) {
            Check.due("good " + g, x.offer(1 + 80 * g), g);
            Check.due("goods", x.count(2), g + 1);
        }
        for (int g = 0; g < 6; g++) {
            Check.due("price of " + g, x.price(g, 7), 1 + 80 * g);
        }
    }

    private static SlotCoins sixGoods() {
        SlotCoins x = shop();
        for (int g = 0; g < 6; g++) {
            x.offer(10 + g);
        }
        return x;
    }

    /** Promise 19: "NONE if there are 6." */
    private static void seventhGood() {
        SlotCoins x = sixGoods();
        Check.due("a seventh", x.offer(99), -1);
        Check.due("an eighth", x.offer(1), -1);
        Check.due("still six", x.count(2), 6);
        Check.due("the last one's price", x.price(5, 1), 15);
        Check.due("the first one's price", x.price(0, 1), 10);
        Edges.changesNothing("a seventh good", EdgesOfMachineTest::sixGoods, y -> y.offer(99));
    }

    /** Promise 19: "IllegalArgumentException: PRICE." */
    private static void offersRefused() {
        SlotCoins x = new SlotCoins();
        Edges.badBut("offer", 1, 500, p -> x.offer(p));
        Check.due("none is there", x.count(2), 0);
        Check.due("1 is one", x.offer(1), 0);
        Check.due("500 is one", x.offer(500), 1);
        SlotCoins y = sixGoods();
        Edges.badBut("a seventh offer", 1, 500, p -> y.offer(p));
    }

    /** Promise 20: "PRICE of a GOOD: what it was." */
    private static void priceWas() {
        SlotCoins x = sixGoods();
        Check.due("told by offer", x.price(5, 500), 15);
        Check.due("then", x.price(5, 1), 500);
        Check.due("then", x.price(5, 33), 1);
        Check.due("another's is its own", x.price(4, 33), 14);
    }

    /** Promise 20: "a PRICE (1 to 500)" */
    private static void pricesRefused() {
        SlotCoins x = sixGoods();
        Edges.badBut("price", 1, 500, p -> x.price(3, p));
        Check.due("as it was", x.price(3, 500), 13);
        Check.due("500 is one", x.price(3, 1), 500);
        Check.due("1 is one", x.price(3, 1), 1);
    }

    /** Promise 20: "NoSuchElementException: no such GOOD (as everywhere)." */
    private static void noSuchGood() {
        SlotCoins x = shop();
        for (int many = 0; many <= 6; many++) {
            if (many == 0 || many == 1 || many == 6) {
                Edges.noneBut("price of " + many + " goods:", many, g -> x.price(g, 1));
                Edges.noneBut("sale of " + many + " goods:", many, g -> x.sale(g));
                Edges.noneBut("lacks of " + many + " goods:", many, g -> x.lacks(g, 0));
                Edges.noneBut("buyer of " + many + " goods:", many, g -> x.buyer(g, 0, -1, -1, -1, 1));
            }
            x.offer(5);
        }
        Check.due("no buyer came", x.count(4), 0);
    }

    /** Promise 21: "So many coins (1 to 20) of a SORT" */
    private static void loadsOfOneToTwenty() {
        SlotCoins x = shop();
        Edges.badBut("load", 1, 20, n -> x.load(0, 0, n));
        Check.due("nothing is loaded", x.tube(0, 0), 0);
        Check.due("nor due", x.wheel(0, 1), 0);
        Check.due("1", x.load(0, 0, 1), 1);
        Check.due("20", x.load(1, 1, 20), 20);
        Edges.badBut("load into a full tube", 1, 20, n -> x.load(1, 1, n));
    }

    /** Promise 21: "are loaded into the TUBE of another one, or its own: how many it has" */
    private static void loadsAnother() {
        SlotCoins x = shop();
        Check.due("its own", x.load(2, 2, 3), 3);
        Check.due("another one's", x.load(2, 0, 4), 7);
        Check.due("four strangers", x.tube(2, 1), 4);
        Check.due("due of the tube's sort", x.wheel(2, 1), 7);
        Check.due("not of the coins'", x.wheel(0, 1), 0);
        Check.due("there of the coins' sort", x.wheel(0, 2), 4);
        Check.due("there of the tube's", x.wheel(2, 2), 3);
        Check.due("a slug's tube takes coins, too", x.load(3, 1, 20), 20);
    }

    /** Promise 21: "NONE, and nothing is loaded, if there would be more than 20." */
    private static void tooMuchToLoad() {
        SlotCoins x = shop();
        Check.due("20 at once", x.load(0, 0, 20), 20);
        Check.due("21", x.load(0, 0, 1), -1);
        Check.due("40", x.load(0, 0, 20), -1);
        x.load(1, 1, 7);
        Check.due("7 and 14", x.load(1, 1, 14), -1);
        Check.due("none of them", x.tube(1, 0), 7);
        Check.due("none is due", x.wheel(1, 1), 7);
        Check.due("7 and 13", x.load(1, 2, 13), 20);
        Edges.changesNothing("loading more than 20", EdgesOfMachineTest::loaded, y -> y.load(1, 2, 14));
        Edges.changes("loading up to 20", EdgesOfMachineTest::loaded, y -> y.load(1, 2, 13));
    }

    private static SlotCoins loaded() {
        SlotCoins x = shop();
        x.load(1, 1, 7);
        return x;
    }

    /** Promise 21: "NoSuchElementException: no such SORT (of both)." */
    private static void loadOfBoth() {
        SlotCoins x = shop();
        Edges.noneBut("load into", 4, t -> x.load(t, 0, 1));
        Edges.noneBut("load of", 4, k -> x.load(0, k, 1));
        Check.due("nothing is loaded", x.tube(0, 0), 0);
        Check.none("of none into a full tube", () -> x.load(0, x.load(1, 1, 20), 1));
    }

    /** Promise 21: "a row of at most 20 coins, of which the top one came last" */
    private static void lastOnTop() {
        SlotCoins x = shop();
        x.offer(10);
        x.load(0, 0, 17);
        x.load(0, 1, 1);
        x.load(0, 2, 1);
        x.load(0, 3, 1);
        Check.due("the top one", x.tube(0, 2), 3);
        putMany(x, 0, 2, 4);
        gives("thirty above", x, x.sale(0), "321");
        Check.due("then", x.tube(0, 2), 0);
        Check.due("seventeen", x.tube(0, 0), 17);
    }

    /** Promise 22: "A coin is put in: as what it is TAKEN (stuck: its SORT)" */
    private static void putAsTaken() {
        SlotCoins x = shop();
        for (int way = 0; way < 3; way++) {
            Check.due("a ten, way " + way, put(x, 0, way), 0);
            Check.due("a one, way " + way, put(x, 2, way), 2);
            Check.due("a slug as a ten, way " + way, put(x, 3, way), 0);
        }
        Check.due("a stuck slug", put(x, 3, 3), 3);
        Check.due("a stuck ten", put(x, 0, 3), 0);
        Check.tell(x, "gate weight 10 10 yes take 1 no back;");
        Check.due("other gates", put(x, 0, 0), 1);
        Check.due("stuck: its sort", put(x, 0, 3), 0);
    }

    /** Promise 22: "0 right: if it is TAKEN AS k, it lies on THE SLIDE with the CREDIT of k's VALUE" */
    private static void putRight() {
        SlotCoins x = shop();
        put(x, 3, 0);
        Check.due("the ten's value", x.credit(), 10);
        Check.due("it lies there", x.count(3), 1);
        Check.due("in no tube", x.wheel(3, 2), 0);
        gives("the slug itself", x, x.refund(), "3");
    }

    /** Promise 22: "1 doubled: so, but twice that" */
    private static void putDoubled() {
        SlotCoins x = shop();
        put(x, 1, 1);
        Check.due("twice 5", x.credit(), 10);
        Check.due("one coin", x.count(3), 1);
        gives("one coin", x, x.refund(), "1");
    }

    /** Promise 22: "2 by a string: so, but no coin lies there" */
    private static void putByString() {
        SlotCoins x = shop();
        x.offer(10);
        put(x, 0, 2);
        Check.due("credit", x.credit(), 10);
        Check.due("a string on the slide", x.count(3), 1);
        Check.due("sold", x.sale(0), 0);
        Check.due("no coin came", x.tube(0, 0), 0);
        Check.due("nor to the bag", x.bag(0), 0);
        put(x, 0, 2);
        Check.due("no coin goes back", x.refund(), 0);
        Check.due("the string is gone", x.count(3), 0);
    }

    /** Promise 22: "3 stuck: it comes to the BAG, without CREDIT (whatever the GATES say)." */
    private static void putStuck() {
        SlotCoins x = shop();
        put(x, 3, 3);
        Check.due("the slug in the bag", x.bag(3), 1);
        Check.due("not as a ten", x.bag(0), 0);
        Check.due("no credit", x.credit(), 0);
        Check.due("not on the slide", x.count(3), 0);
        Check.tell(x, "");
        Check.due("refused, if it weren't stuck", put(x, 3, 0), -1);
        Check.due("stuck all the same", put(x, 3, 3), 3);
        Check.due("two", x.bag(3), 2);
        x.set(0, 999);
        Check.due("on any day", put(x, 0, 3), 0);
        Check.due("no wheel rose", x.wheel(0, 0) + x.wheel(3, 0), 0);
    }

    /** Promise 22: "NONE if it is refused" */
    private static void putRefused() {
        SlotCoins x = shop();
        x.span(0, 0, 9, 11);
        x.put(1, 20, 10, 10, 0);
        for (int way = 0; way < 3; way++) {
            Check.due("9, way " + way, x.put(0, 9, 10, 10, way), -1);
            Check.due("11, way " + way, x.put(0, 11, 10, 10, way), -1);
        }
        Check.due("credit as it was", x.credit(), 5);
        Check.due("slide as it was", x.count(3), 1);
        Check.due("wheel as it was", x.wheel(0, 0), 0);
        for (int way = 0; way < 3; way++) {
            int w = way;
            Edges.changesNothing("a refused coin, way " + way, EdgesOfMachineTest::shut, y -> y.put(1, 20, 10, 10, w));
        }
    }

    private static SlotCoins shut() {
        SlotCoins x = shop();
        put(x, 0, 0);
        Check.tell(x, Edges.SHUT);
        return x;
    }

    /** Two coins were given back before, and twelve lie on the slide. */
    private static SlotCoins twelve() {
        SlotCoins x = shop();
        x.offer(10);
        putMany(x, 1, 0, 2);
        x.refund();
        putMany(x, 0, 0, 5);
        putMany(x, 2, 1, 4);
        putMany(x, 3, 2, 3);
        return x;
    }

    /** Promise 22: "or THE SLIDE has 12 (stuck: never)." and "THE SLIDE: at most 12 coins, each TAKEN AS a SORT, with a CREDIT." */
    private static void fullSlide() {
        SlotCoins x = shop();
        for (int i = 0; i < 12; i++) {
            Check.due("coin " + i, put(x, 2, i % 3), 2);
            Check.due("on the slide", x.count(3), i + 1);
        }
        for (int way = 0; way < 3; way++) {
            Check.due("a thirteenth, way " + way, put(x, 1, way), -1);
        }
        Check.due("twelve", x.count(3), 12);
        Check.due("of ones alone", x.credit(), 16);
        Check.due("no wheel of fives", x.wheel(1, 0), 0);
        x.refund();
        Check.due("then there is room", put(x, 1, 0), 1);
        for (int way = 0; way < 3; way++) {
            int w = way;
            Edges.changesNothing("a thirteenth coin, way " + way, EdgesOfMachineTest::twelve, y -> put(y, 1, w));
        }
    }

    /** Promise 22: "(stuck: never)" */
    private static void stuckWithAFullSlide() {
        SlotCoins x = twelve();
        Check.due("stuck", put(x, 1, 3), 1);
        Check.due("in the bag", x.bag(1), 1);
        Check.tell(x, "");
        Check.due("stuck, though refused, too", put(x, 2, 3), 2);
        Check.due("in the bag", x.bag(2), 1);
        Check.due("the slide as it was", x.count(3), 12);
    }

    /** Promise 22: "IllegalArgumentException: it is no COIN of the SORT" */
    private static void noCoinOfIt() {
        SlotCoins x = shop();
        x.span(0, 0, 10, 12);
        x.span(0, 1, 30, 31);
        x.span(0, 2, 98, 99);
        for (int w = 0; w < 4; w++) {
            int way = w;
            Edges.badBut("weight", 10, 12, v -> x.put(0, v, 30, 98, way));
            Edges.badBut("width", 30, 31, v -> x.put(0, 10, v, 98, way));
            Edges.badBut("ring", 98, 99, v -> x.put(0, 10, 30, v, way));
        }
        Check.due("nothing lies there", x.count(3), 0);
        Check.due("nothing is in the bag", x.bag(0), 0);
        Check.due("the least", x.put(0, 10, 30, 98, 3), 0);
        Check.due("the greatest", x.put(0, 12, 31, 99, 3), 0);
        x.wear(0, 5);
        x.set(1, 20);
        Check.bad("worn: 11 is too heavy", () -> x.put(0, 3, 30, 98, 3));
        Check.due("0 to 2", x.put(0, 2, 30, 98, 3), 0);
        x.set(2, 10);
        Check.due("by its ring, not by what is read", x.put(0, 0, 30, 99, 3), 0);
    }

    /** Promise 22: "no such way." */
    private static void noSuchWay() {
        SlotCoins x = shop();
        Edges.badBut("way", 0, 3, way -> put(x, 0, way));
        Check.tell(x, "");
        Check.bad("way 4 of a coin that is refused", () -> put(x, 0, 4));
        SlotCoins y = twelve();
        Check.bad("way 4 on a full slide", () -> put(y, 0, 4));
        Check.bad("way -1 on a full slide", () -> put(y, 0, -1));
        Check.due("nothing came of it", x.count(3) + x.bag(0) + y.bag(0), 0);
    }

    /** Promise 22: "WHEEL of k: 1 more (doubled: 2 more; stuck: none)." */
    private static void wheelsRise() {
        SlotCoins x = shop();
        put(x, 3, 0);
        Check.due("right", x.wheel(0, 0), 1);
        put(x, 3, 1);
        Check.due("doubled", x.wheel(0, 0), 3);
        put(x, 3, 2);
        Check.due("by string", x.wheel(0, 0), 4);
        put(x, 0, 3);
        Check.due("stuck", x.wheel(0, 0), 4);
        Check.due("none of the slug's own", x.wheel(3, 0), 0);
    }

    /** Promise 23: "All CREDIT of THE SLIDE." */
    private static void creditOfAll() {
        SlotCoins x = new SlotCoins();
        Check.due("an empty slide", x.credit(), 0);
        Check.plain(x, 200, 10);
        Check.tell(x, "gate weight 10 10 yes take 0 no back;");
        for (int i = 1; i <= 12; i++) {
            x.put(0, 10, 10, 10, 1);
            Check.due("doubled ones: " + i, x.credit(), 400 * i);
        }
        x.put(0, 10, 10, 10, 1);
        Check.due("no more", x.credit(), 4800);
        x.set(0, 999);
        Check.tell(x, "");
        Check.due("a credit once given stays", x.credit(), 4800);
        x.refund();
        Check.due("then none", x.credit(), 0);
    }

    /** Promise 24: "A SALE of a GOOD: how many coins are GIVEN" and "all CREDIT together is its PRICE or more" */
    private static void priceOrMore() {
        SlotCoins x = shop();
        x.load(2, 2, 5);
        x.offer(11);
        x.offer(500);
        Check.due("nothing was put in", x.sale(0), -1);
        put(x, 0, 0);
        Check.due("1 below", x.sale(0), -1);
        x.price(0, 10);
        Check.due("just so", x.sale(0), 0);
        Check.due("the credit is used up", x.sale(0), -1);
        x.price(0, 9);
        put(x, 0, 0);
        gives("1 above", x, x.sale(0), "2");
        SlotCoins y = new SlotCoins();
        Check.plain(y, 125, 10);
        Check.tell(y, "gate weight 10 10 yes take 0 no back;");
        y.offer(500);
        y.put(0, 10, 10, 10, 1);
        y.put(0, 10, 10, 10, 0);
        Check.due("375 of 500", y.sale(0), -1);
        y.put(0, 10, 10, 10, 2);
        Check.due("500 of 500", y.sale(0), 0);
    }

    /** Promise 24: "and there is CHANGE of what is above." */
    private static void changeOfWhatIsAbove() {
        SlotCoins x = shop();
        x.offer(12);
        put(x, 0, 0);
        putMany(x, 1, 0, 1);
        Check.due("coins of the slide are no change", x.sale(0), -1);
        x.load(2, 2, 2);
        Check.due("2 of 3", x.sale(0), -1);
        x.load(1, 1, 20);
        Check.due("fives make no 3", x.sale(0), -1);
        x.load(2, 2, 1);
        gives("3 of 3", x, x.sale(0), "222");
        x.price(0, 10);
        put(x, 0, 0);
        Check.due("0 above needs no coin", x.sale(0), 0);
    }

    /** Promise 24: "CHANGE of a sum: coins out of TUBES of GOOD SORTS" */
    private static void changeOutOfGoodSorts() {
        SlotCoins x = new SlotCoins();
        x.sort(10, 0, 999);
        x.sort(5, 3, 5);
        x.sort(0, 0, 999);
        x.span(0, 0, 10, 10);
        Check.tell(x, "gate weight 10 10 yes take 0 no back;");
        x.load(1, 1, 3);
        x.load(2, 1, 3);
        x.offer(5);
        int[] days = {2, 6, 3, 5};
        for (int i = 0; i < 4; i++) {
            x.set(0, days[i]);
            x.put(0, 10, 0, 0, 2);
            Check.due("fives on day " + days[i], x.sale(0), i < 2 ? -1 : 1);
            x.refund();
        }
        Check.due("a slug's tube gives none", x.tube(2, 0), 3);
        Check.due("one five is left", x.tube(1, 0), 1);
    }

    /** Promise 24: "(by their VALUES)" */
    private static void changeByValues() {
        SlotCoins x = shop();
        x.offer(5);
        x.load(1, 3, 1);
        put(x, 0, 2);
        gives("a slug in the tube of fives counts 5", x, x.sale(0), "3");
        x.load(1, 0, 1);
        put(x, 0, 2);
        gives("and so does a ten", x, x.sale(0), "0");
        x.load(0, 1, 1);
        put(x, 0, 2);
        Check.due("a five in the tube of tens counts 10", x.sale(0), -1);
    }

    /** A machine with such values, so many coins of each, and so much above the price of GOOD 0. */
    private static SlotCoins above(int sum, int[] values, int[] many) {
        SlotCoins x = new SlotCoins();
        for (int k = 0; k < values.length; k++) {
            Check.plain(x, values[k], 10 + k);
            if (many[k] > 0) {
                x.load(k, k, many[k]);
            }
        }
        int last = x.sort(200, 0, 999);
        x.span(last, 0, 50, 50);
        Check.tell(x, "gate weight 50 50 yes take " + last + " no back;");
        int times = sum / 200 + 1;
        for (int i = 0; i < times; i++) {
            x.put(last, 50, 0, 0, 2);
        }
        x.offer(200 * times - sum);
        return x;
    }

    private static void change(int sum, int[] values, int[] many, String due) {
        SlotCoins x = above(sum, values, many);
        gives("change of " + sum, x, x.sale(0), due);
    }

    /** Promise 24: "the fewest that are that sum together" */
    private static void fewestCoins() {
        change(6, new int[] {4, 3, 1}, new int[] {9, 9, 9}, "11");
        change(6, new int[] {4, 3, 1}, new int[] {9, 1, 9}, "022");
        change(6, new int[] {1, 4, 3}, new int[] {20, 9, 9}, "22");
        change(8, new int[] {1, 4, 6}, new int[] {20, 9, 9}, "11");
        change(20, new int[] {1, 20}, new int[] {20, 1}, "1");
        change(20, new int[] {1, 20}, new int[] {20, 0}, "00000000000000000000");
        change(21, new int[] {1, 20}, new int[] {20, 1}, "01");
        Check.due("no change of 21", above(21, new int[] {1, 20}, new int[] {20, 0}).sale(0), -1);
        change(30, new int[] {10, 15}, new int[] {3, 1}, "000");
        change(30, new int[] {10, 15}, new int[] {3, 2}, "11");
        Check.due("no change of 1", above(1, new int[] {2, 3}, new int[] {9, 9}).sale(0), -1);
        change(1, new int[] {2, 1}, new int[] {9, 1}, "1");
        change(199, new int[] {100, 50, 20, 10, 5, 2, 1}, new int[] {1, 1, 2, 1, 1, 2, 0}, "0122455");
    }

    /** Promise 24: "of such the most of SORT 0, then of 1, and so on." */
    private static void mostOfFirstSorts() {
        change(6, new int[] {4, 3, 2}, new int[] {9, 9, 9}, "02");
        change(6, new int[] {3, 4, 2}, new int[] {9, 9, 9}, "00");
        change(6, new int[] {2, 3, 4}, new int[] {9, 9, 9}, "02");
        change(16, new int[] {10, 4, 3, 2}, new int[] {9, 9, 9, 9}, "013");
        change(16, new int[] {10, 3, 4, 2}, new int[] {9, 9, 9, 9}, "011");
        change(16, new int[] {10, 2, 3, 4}, new int[] {9, 9, 9, 9}, "013");
        change(5, new int[] {5, 5}, new int[] {1, 1}, "0");
        change(10, new int[] {5, 5}, new int[] {1, 1}, "01");
        change(25, new int[] {1, 1, 1}, new int[] {3, 20, 20}, "000" + "1".repeat(20) + "22");
        change(22, new int[] {9, 8, 7, 6, 5, 4, 3}, new int[] {9, 9, 9, 9, 9, 9, 9}, "005");
        change(6, new int[] {100, 100, 100, 100, 100, 3, 3}, new int[] {1, 1, 1, 1, 1, 1, 2}, "56");
    }

    /** Promise 24: "how many coins are GIVEN" */
    private static void greatestChange() {
        SlotCoins all = new SlotCoins();
        for (int k = 0; k < 7; k++) {
            Check.plain(all, 1, 10 + k);
        }
        Check.plain(all, 36, 50);
        Check.tell(all, "gate weight 50 50 yes take 7 no back;");
        for (int k = 0; k < 8; k++) {
            all.load(k, k, 20);
        }
        for (int i = 0; i < 12; i++) {
            all.put(7, 50, 10, 10, 1);
        }
        all.offer(3);
        Check.due("861 is more than all", all.sale(0), -1);
        all.price(0, 4);
        StringBuilder due = new StringBuilder();
        for (int k = 0; k < 8; k++) {
            due.append(("" + k).repeat(20));
        }
        gives("every coin of eight full tubes", all, all.sale(0), due.toString());
        Check.due("twelve came", all.tube(7, 0), 12);
        Check.due("none is left", all.tube(6, 0), 0);
        Check.due("wheel of 7", all.wheel(7, 0), 24 - 20);
        greatestSum();
        lastSortsChange();
    }

    private static void greatestSum() {
        SlotCoins x = new SlotCoins();
        int[] values = {200, 199, 200, 200, 200, 200, 200, 200};
        for (int k = 0; k < 8; k++) {
            Check.plain(x, values[k], 10 + k);
            x.load(k, k, 20);
        }
        Check.tell(x, "gate weight 10 10 yes take 0 no back;");
        x.offer(1);
        for (int i = 0; i < 12; i++) {
            x.put(0, 10, 10, 10, 1);
        }
        Check.due("credit", x.credit(), 4800);
        gives("4799", x, x.sale(0), "0".repeat(20) + "1222");
    }

    /** Of eight SORTS the last ones give change, one to four coins of each. */
    private static void lastSortsChange() {
        for (int sum = 0; sum <= 24; sum++) {
            SlotCoins x = new SlotCoins();
            for (int k = 0; k < 6; k++) {
                Check.plain(x, 100, 10 + k);
            }
            Check.plain(x, 5, 20);
            Check.plain(x, 1, 21);
            Check.tell(x, "gate weight 10 10 yes take 0 no back;");
            x.load(6, 6, 4);
            x.load(7, 7, 4);
            x.offer(100 - sum);
            x.put(0, 10, 10, 10, 0);
            gives("of " + sum, x, x.sale(0), "6".repeat(sum / 5) + "7".repeat(sum % 5));
        }
    }

    /** Promise 24: "First the CHANGE is taken from the tops of TUBES (WHEELS fall by as many)" */
    private static void changeFromTheTops() {
        SlotCoins x = shop();
        x.offer(1);
        x.load(2, 0, 1);
        x.load(2, 1, 1);
        x.load(2, 2, 1);
        x.load(2, 3, 1);
        put(x, 2, 0);
        put(x, 2, 0);
        put(x, 2, 0);
        gives("two of four", x, x.sale(0), "32");
        Check.due("the wheel fell by 2", x.wheel(2, 0), 3 - 2);
        Check.due("two below, three from the slide", x.tube(2, 0), 5);
        Check.due("these are ones", x.tube(2, 1), 2);
        Check.due("due is what was loaded, too", x.wheel(2, 1), 5);
        putMany(x, 2, 2, 6);
        gives("five", x, x.sale(0), "22210");
        Check.due("below 0", x.wheel(2, 0), 1 + 6 - 5);
        x.price(0, 10);
        x.load(2, 2, 5);
        putMany(x, 1, 0, 3);
        gives("ones for a five", x, x.sale(0), "22222");
        Check.due("below 0", x.wheel(2, 0), 2 - 5);
        Check.due("no other wheel fell", x.wheel(1, 0), 3);
    }

    /** Promise 24: "SORT by SORT by number: GIVEN" */
    private static void sortBySort() {
        SlotCoins x = shop();
        x.offer(4);
        x.load(2, 2, 2);
        x.load(1, 0, 1);
        x.load(0, 1, 1);
        x.load(0, 2, 1);
        putMany(x, 0, 2, 3);
        // 26 is 10 and 10 (the coins in that tube are a one and a five), 5 (a ten) and 1.
        gives("26", x, x.sale(0), "2102");
    }

    /** Promise 24: "then the coins of THE SLIDE come, as they lay there, to the tops of TUBES of those as which they were TAKEN" */
    private static void slideToTubes() {
        SlotCoins x = shop();
        x.offer(30);
        put(x, 0, 0);
        put(x, 3, 0);
        put(x, 0, 2);
        Check.due("sold", x.sale(0), 0);
        Check.due("two coins", x.tube(0, 0), 2);
        Check.due("the slug is on top", x.tube(0, 2), 3);
        Check.due("it is a stranger", x.tube(0, 1), 1);
        Check.due("nothing in its own tube", x.tube(3, 0), 0);
        put(x, 3, 0);
        put(x, 1, 0);
        put(x, 1, 1);
        put(x, 2, 0);
        put(x, 2, 0);
        put(x, 2, 0);
        put(x, 2, 0);
        put(x, 2, 0);
        Check.tell(x, "");
        x.set(0, 999);
        Check.due("sold, whatever the gates say now", x.sale(0), 0);
        Check.due("three", x.tube(0, 0), 3);
        Check.due("two fives", x.tube(1, 0), 2);
        Check.due("five ones", x.tube(2, 0), 5);
        Check.due("the slide is empty", x.count(3), 0);
        SlotCoins y = shop();
        y.offer(30);
        put(y, 3, 0);
        put(y, 0, 0);
        put(y, 0, 0);
        y.sale(0);
        Check.due("the last that lay there is on top", y.tube(0, 2), 0);
    }

    /** Promise 24: "(to the BAG, if there are 20)" */
    private static void fullTubes() {
        SlotCoins x = shop();
        x.offer(20);
        x.load(0, 0, 19);
        put(x, 3, 0);
        put(x, 0, 0);
        Check.due("sold", x.sale(0), 0);
        Check.due("twenty", x.tube(0, 0), 20);
        Check.due("the first found room", x.tube(0, 2), 3);
        Check.due("the second didn't", x.bag(0), 1);
        Check.due("nor is the first there", x.bag(3), 0);
        put(x, 3, 0);
        put(x, 0, 2);
        Check.due("sold", x.sale(0), 0);
        Check.due("a slug as a ten, to the bag as a slug", x.bag(3), 1);
        Check.due("the string to nothing", x.bag(0), 1);
        put(x, 0, 0);
        put(x, 3, 0);
        put(x, 0, 0);
        gives("one is given first", x, x.sale(0), "3");
        Check.due("so one finds room", x.tube(0, 2), 0);
        Check.due("the slug doesn't", x.bag(3), 2);
        Check.due("nor does the last", x.bag(0), 2);
    }

    /** Promise 24: "NONE, and nothing is taken, if there is none." */
    private static void noSale() {
        SlotCoins x = twelve();
        x.price(0, 99);
        Check.due("88 of 99", x.sale(0), -1);
        Check.due("the credit stays", x.credit(), 88);
        Check.due("the slide stays", x.count(3), 12);
        x.price(0, 87);
        Check.due("no change of 1", x.sale(0), -1);
        Check.due("the credit stays", x.credit(), 88);
        Check.due("what was given before stays", x.count(7), 2);
        Check.due("two fives", x.given(1), 1);
        Edges.changesNothing("a sale below the price", () -> priced(89), y -> y.sale(0));
        Edges.changesNothing("a sale without change", () -> priced(87), y -> y.sale(0));
        Edges.changes("a sale", () -> priced(88), y -> y.sale(0));
    }

    private static SlotCoins priced(int price) {
        SlotCoins x = twelve();
        x.price(0, price);
        x.load(1, 1, 2);
        return x;
    }

    /** Promise 25: "A REFUND: how many coins are GIVEN." */
    private static void refundOfNothing() {
        SlotCoins x = shop();
        gives("an empty slide", x, x.refund(), "");
        putMany(x, 1, 0, 12);
        gives("twelve", x, x.refund(), "111111111111");
        gives("none behind that", x, x.refund(), "");
        putMany(x, 1, 2, 12);
        gives("twelve strings", x, x.refund(), "");
        Check.due("no credit", x.credit(), 0);
    }

    /** Promise 25: "A REFUND gives the coins of THE SLIDE back (GIVEN, as they lay there)" */
    private static void refundAsTheyLay() {
        SlotCoins x = shop();
        put(x, 2, 0);
        put(x, 0, 2);
        put(x, 3, 1);
        put(x, 1, 0);
        put(x, 0, 0);
        gives("the coins themselves", x, x.refund(), "2310");
        Check.due("the slide is empty", x.count(3), 0);
        Check.due("no tube has any", x.tube(0, 0) + x.tube(1, 0) + x.tube(2, 0) + x.tube(3, 0), 0);
        x.load(0, 0, 20);
        put(x, 3, 0);
        gives("not a coin of the tube", x, x.refund(), "3");
        Check.due("that is full", x.tube(0, 0), 20);
    }

    /** Promise 25: "and WHEELS fall by what they rose for them (those by string, too)." */
    private static void wheelsFall() {
        SlotCoins x = shop();
        put(x, 0, 0);
        x.offer(10);
        x.sale(0);
        put(x, 0, 0);
        Check.due("2", x.wheel(0, 0), 2);
        x.refund();
        Check.due("a right one: 1 less", x.wheel(0, 0), 1);
        put(x, 3, 1);
        x.refund();
        Check.due("a doubled one: 2 less", x.wheel(0, 0), 1);
        put(x, 0, 2);
        x.refund();
        Check.due("one by string: 1 less", x.wheel(0, 0), 1);
        putMany(x, 0, 0, 3);
        putMany(x, 2, 1, 4);
        putMany(x, 3, 2, 5);
        Check.due("as what they were taken", x.wheel(0, 0), 1 + 3 + 5);
        Check.due("ones", x.wheel(2, 0), 8);
        x.refund();
        Check.due("all fall", x.wheel(0, 0), 1);
        Check.due("ones, too", x.wheel(2, 0), 0);
        Check.due("a slug's never rose", x.wheel(3, 0), 0);
    }

    /** Promise 26: "The SORT that a coin is of that was GIVEN by the latest SALE or REFUND, from 0 on" */
    private static void givenByTheLatest() {
        SlotCoins x = shop();
        x.offer(10);
        put(x, 0, 0);
        put(x, 1, 0);
        x.refund();
        Check.due("10", x.given(0), 0);
        Check.due("5", x.given(1), 1);
        Check.due("no sale", x.sale(0), -1);
        Check.due("still of the refund", x.given(1), 1);
        put(x, 0, 0);
        x.sale(0);
        Check.due("a sale gives none", x.given(0), -1);
        put(x, 3, 0);
        x.refund();
        Check.due("a slug", x.given(0), 3);
        Check.due("the five of before isn't among them", x.given(1), -1);
        x.load(1, 2, 1);
        put(x, 0, 0);
        put(x, 1, 0);
        Check.due("a one for 5", x.sale(0), 1);
        Check.due("what the coin is, not its tube", x.given(0), 2);
    }

    /** Promise 26: "NONE: not so many." */
    private static void notSoManyGiven() {
        SlotCoins x = shop();
        for (int many = 0; many <= 12; many += 6) {
            putMany(x, 1, 0, many);
            x.refund();
            Check.due("the next", x.given(many), -1);
            Check.due("the last", x.given(many - 1), many == 0 ? -1 : 1);
            for (int i : new int[] {-1, -2, 160, 1000, Integer.MAX_VALUE, Integer.MIN_VALUE}) {
                Check.due("given " + i, x.given(i), -1);
            }
        }
    }

    /** Promise 27: "Of a TUBE, what 0: how many coins, 1: how many of these are of another SORT, 2: the SORT of the top one (NONE)." */
    private static void ofATube() {
        SlotCoins x = shop();
        Check.due("an empty one", x.tube(3, 0), 0);
        Check.due("no strangers", x.tube(3, 1), 0);
        Check.due("no top one", x.tube(3, 2), -1);
        x.load(3, 3, 1);
        Check.due("one", x.tube(3, 0), 1);
        Check.due("no strangers", x.tube(3, 1), 0);
        Check.due("its own", x.tube(3, 2), 3);
        x.load(3, 0, 19);
        Check.due("twenty", x.tube(3, 0), 20);
        Check.due("nineteen strangers", x.tube(3, 1), 19);
        Check.due("one of these", x.tube(3, 2), 0);
        Check.due("the other tubes are empty", x.tube(0, 0) + x.tube(2, 0), 0);
        x.empty(3);
        Check.due("empty again", x.tube(3, 0), 0);
        Check.due("no strangers", x.tube(3, 1), 0);
        Check.due("no top one", x.tube(3, 2), -1);
    }

    /** Promise 27: "NoSuchElementException: no such SORT" */
    private static void noSuchTube() {
        SlotCoins x = shop();
        for (int w = 0; w <= 2; w++) {
            int what = w;
            Edges.noneBut("tube, what " + w, 4, t -> x.tube(t, what));
        }
    }

    /** Promise 27: "IllegalArgumentException: another what." */
    private static void otherOfATube() {
        SlotCoins x = shop();
        Edges.badBut("tube 0", 0, 2, what -> x.tube(0, what));
        Edges.badBut("tube 3", 0, 2, what -> x.tube(3, what));
    }

    /** Promise 28: "How many coins of a SORT are in the BAG." and "a BAG: how many coins of each SORT." */
    private static void inTheBag() {
        SlotCoins x = shop();
        for (int k = 0; k < 4; k++) {
            Check.due("empty at first", x.bag(k), 0);
        }
        putMany(x, 3, 3, 40);
        Check.due("a bag has room for all", x.bag(3), 40);
        for (int i = 0; i < 10; i++) {
            x.load(1, 2, 20);
            x.empty(1);
        }
        Check.due("two hundred", x.bag(2), 200);
        Check.due("none of the tube's own", x.bag(1), 0);
        Check.due("the slugs as before", x.bag(3), 40);
    }

    /** Promise 29: "All coins of a TUBE come to the BAG: how many." */
    private static void allToTheBag() {
        SlotCoins x = shop();
        Check.due("an empty one", x.empty(0), 0);
        x.load(0, 0, 12);
        x.load(0, 3, 8);
        x.load(1, 1, 1);
        Check.due("a full one", x.empty(0), 20);
        Check.due("tens", x.bag(0), 12);
        Check.due("slugs", x.bag(3), 8);
        Check.due("it is empty", x.tube(0, 0), 0);
        Check.due("so again", x.empty(0), 0);
        Check.due("no more came", x.bag(0), 12);
        Check.due("the other tube stays", x.tube(1, 0), 1);
        Check.due("due stays", x.wheel(0, 1), 20);
        Check.due("there stays", x.wheel(0, 2), 12);
        Check.due("then it takes twenty", x.load(0, 0, 20), 20);
    }

    private static void lacks(SlotCoins x, int many, int least, int row) {
        Check.due("lacks", x.lacks(0, 0), many);
        Check.due("the least of them", x.lacks(0, 1), least);
        Check.due("in a row", x.lacks(0, 2), row);
    }

    /** Promise 30: "LACKS of a GOOD: sums from its PRICE to 200 more for which there is no CHANGE." */
    private static void lacksFromPriceOn() {
        SlotCoins x = shop();
        x.offer(1);
        lacks(x, 200, 2, 200);
        x.price(0, 500);
        lacks(x, 200, 501, 200);
        x.load(2, 2, 1);
        lacks(x, 199, 502, 199);
        put(x, 2, 0);
        lacks(x, 199, 502, 199);
        x.load(2, 3, 1);
        lacks(x, 198, 503, 198);
        x.set(0, 999);
        lacks(x, 198, 503, 198);
        SlotCoins y = new SlotCoins();
        y.sort(1, 3, 5);
        y.load(0, 0, 20);
        y.offer(10);
        lacks(y, 200, 11, 200);
        y.set(0, 3);
        lacks(y, 180, 31, 180);
    }

    private static SlotCoins tensAndOnes(int tens, int ones) {
        SlotCoins x = shop();
        x.offer(100);
        x.load(0, 0, tens);
        x.load(2, 2, ones);
        return x;
    }

    /** Promise 30: "to 200 more" */
    private static void lacksToTwoHundred() {
        lacks(tensAndOnes(19, 9), 1, 300, 1);
        lacks(tensAndOnes(19, 10), 0, -1, 0);
        lacks(tensAndOnes(20, 9), 0, -1, 0);
        lacks(tensAndOnes(20, 20), 0, -1, 0);
        lacks(tensAndOnes(18, 9), 11, 290, 11);
        lacks(tensAndOnes(20, 8), 20, 109, 1);
        SlotCoins x = new SlotCoins();
        x.sort(200, 0, 9);
        x.load(0, 0, 1);
        x.offer(100);
        lacks(x, 199, 101, 199);
        x.sort(199, 0, 9);
        x.load(1, 1, 1);
        lacks(x, 198, 101, 198);
    }

    /** Promise 30: "Of LACKS of a GOOD, what 0: how many, 1: the least sum (NONE), 2: how many of them follow one another at most." */
    private static void lacksInARow() {
        SlotCoins x = new SlotCoins();
        x.sort(20, 0, 9);
        x.sort(50, 0, 9);
        x.load(0, 0, 1);
        x.load(1, 1, 3);
        x.offer(1);
        // What can be changed above the price: 0, 20, 50, 70, 100, 120, 150, 170.
        lacks(x, 201 - 8, 2, 30);
        x.empty(0);
        lacks(x, 201 - 4, 2, 50);
        x.load(0, 0, 20);
        // 0, 20, 40, 50, 60 and all tens on.
        lacks(x, 201 - 19, 2, 19);
        lacks(middle(), 119 + 2, 47, 119);
        lacks(first(), 99 + 5 * 19, 8, 99);
    }

    /** CHANGE of 0 to 39 and of 159 to 198. */
    private static SlotCoins middle() {
        SlotCoins x = new SlotCoins();
        x.sort(1, 0, 9);
        x.sort(2, 0, 9);
        x.sort(159, 0, 9);
        x.load(0, 0, 19);
        x.load(1, 1, 10);
        x.load(2, 2, 1);
        x.offer(7);
        return x;
    }

    /** CHANGE of 0, 100, 120, 140, 160, 180 and 200. */
    private static SlotCoins first() {
        SlotCoins x = new SlotCoins();
        for (int k = 0; k < 6; k++) {
            x.sort(100 + 20 * k, 0, 9);
            x.load(k, k, 1);
        }
        x.offer(7);
        return x;
    }

    /** Promise 30: "IllegalArgumentException: another what." */
    private static void otherLacks() {
        SlotCoins x = shop();
        x.offer(5);
        x.offer(6);
        Edges.badBut("lacks of 0", 0, 2, what -> x.lacks(0, what));
        Edges.badBut("lacks of 1", 0, 2, what -> x.lacks(1, what));
    }

    /** Promise 31: "The least price that is MADE from p (1 to 1000) on; NONE." */
    private static void leastMade() {
        SlotCoins x = new SlotCoins();
        Check.due("without sorts", x.made(1), -1);
        Check.due("without sorts", x.made(1000), -1);
        x.sort(6, 0, 9);
        x.sort(10, 0, 9);
        int[] from = {1, 6, 7, 10, 11, 13, 17, 19, 23, 27, 1000};
        int[] due = {6, 6, 10, 10, 12, 16, 18, 20, 24, 28, 1000};
        for (int i = 0; i < from.length; i++) {
            Check.due("from " + from[i], x.made(from[i]), due[i]);
        }
    }

    /** Promise 31: "(any number of each)" */
    private static void anyNumberOfEach() {
        SlotCoins x = new SlotCoins();
        x.sort(1, 0, 9);
        Check.due("a thousand ones", x.made(1000), 1000);
        SlotCoins y = new SlotCoins();
        y.sort(199, 0, 9);
        y.sort(197, 0, 9);
        Check.due("none of the one", y.made(590), 591);
        Check.due("three of the other", y.made(592), 593);
        Check.due("five of 199", y.made(994), 995);
        Check.due("none above", y.made(996), -1);
        Check.due("no tubes are asked", y.made(1), 197);
    }

    /** Promise 31: "that GOOD SORTS' VALUES can be together" */
    private static void madeOfGoodSorts() {
        SlotCoins x = new SlotCoins();
        x.sort(0, 0, 999);
        Check.due("a slug", x.made(1), -1);
        x.sort(7, 3, 5);
        int[] days = {2, 3, 5, 6};
        for (int i = 0; i < 4; i++) {
            x.set(0, days[i]);
            Check.due("on day " + days[i], x.made(8), i == 1 || i == 2 ? 14 : -1);
        }
    }

    /** Promise 31: "MADE: a price from 1 to 1000" */
    private static void madeToAThousand() {
        SlotCoins x = new SlotCoins();
        x.sort(200, 0, 9);
        Check.due("from 1", x.made(1), 200);
        Check.due("from 801", x.made(801), 1000);
        Check.due("1000", x.made(1000), 1000);
        SlotCoins y = new SlotCoins();
        y.sort(143, 0, 9);
        Check.due("858", y.made(858), 858);
        Check.due("1001 is none", y.made(859), -1);
        Check.due("nor from 1000", y.made(1000), -1);
    }

    /** Promise 31: "IllegalArgumentException: p." */
    private static void madeRefused() {
        SlotCoins x = new SlotCoins();
        Edges.badBut("made of nothing", 1, 1000, p -> x.made(p));
        x.sort(1, 0, 9);
        Edges.badBut("made of ones", 1, 1000, p -> x.made(p));
    }
}
