import java.util.function.Supplier;

/** Boundary cases of the promises 40 to 45, and of the Terms that they use: a test for each sentence. */
public final class EdgesOfTraysTest {
    public static void main(String[] args) {
        soManyZeros();
        toldAnew();
        noSuchTray();
        noSuchSortOrLength();
        cutToItsSort();
        eachTrayItsOwn();
        missingToWrite();
        noSuchPlace();
        oneOnTheOther();
        tooMuchToPour();
        noSuchTube();
        missingToPour();
        noSortToPour();
        pourLeavesTheTray();
        imageIsMade();
        noSuchImage();
        noSuchImageToRestore();
        noneWasMade();
        allAsItWas();
        twoWorlds();
        givenAndBuyers();
        tapeStays();
        faultStays();
        traysStay();
        imagesStay();
        howMany();
        otherCounts();
        Check.end();
    }

    private static SlotCoins sorts(int many) {
        SlotCoins x = new SlotCoins();
        for (int k = 0; k < many; k++) {
            x.sort(k, 0, 9);
        }
        return x;
    }

    /** Promise 40: "A TRAY is a row of so many 0s." */
    private static void soManyZeros() {
        for (int sort = 0; sort < 4; sort++) {
            for (int many : new int[] {0, 1, 19, 20}) {
                SlotCoins x = sorts(2);
                x.tray(sort, sort, many);
                Check.due("poured", x.pour(sort, 1), many);
                Check.due("none of the tube's own sort: all are 0", x.tube(1, 1), many);
                Check.due("the top one", x.tube(1, 2), many == 0 ? -1 : 0);
                Check.due("the sort tells how many bits", many == 0 ? 0 : x.write(sort, 0, 1L << 8 * (1 << sort) - 1),
                    many == 0 ? 0 : -1L << 8 * (1 << sort) - 1);
            }
        }
    }

    /** Promise 40: "a row of so many 0s" */
    private static void toldAnew() {
        SlotCoins x = sorts(2);
        x.tray(2, 3, 20);
        for (int i = 0; i < 20; i++) {
            x.write(2, i, 1);
        }
        x.tray(2, 0, 5);
        Check.refused("place 5 isn't there any more", IndexOutOfBoundsException.class, () -> x.write(2, 5, 0));
        Check.due("0s", x.pour(2, 0), 5);
        Check.due("five of sort 0", x.tube(0, 1), 0);
        Check.due("8 bits", x.write(2, 4, 255), -1);
        x.tray(2, 1, 15);
        Check.due("more 0s", x.pour(2, 0), 20);
        Check.due("all of sort 0", x.tube(0, 1), 0);
        Check.due("16 bits", x.write(2, 14, 255), 255);
        x.tray(2, 1, 0);
        Check.refused("none", IndexOutOfBoundsException.class, () -> x.write(2, 0, 0));
    }

    /** Promise 40: "NoSuchElementException: no such TRAY (as below)" */
    private static void noSuchTray() {
        SlotCoins x = sorts(2);
        Edges.noneBut("tray", 4, t -> x.tray(t, 0, 1));
        Edges.noneBut("write", 4, t -> x.write(t, 0, 0));
        Edges.noneBut("pour", 4, t -> x.pour(t, 0));
        Edges.noneBut("tray, and no such sort,", 4, t -> x.tray(t, 9, 99));
        Edges.noneBut("write, and no such place,", 4, t -> x.write(t, 99, 0));
        for (int t = 0; t < 4; t++) {
            int tray = t;
            Check.refused("none of them is there", IllegalStateException.class, () -> x.write(tray, 0, 0));
        }
    }

    /** Promise 40: "IllegalArgumentException: no such sort, or not so many." */
    private static void noSuchSortOrLength() {
        SlotCoins x = sorts(2);
        x.tray(1, 1, 7);
        Edges.badBut("sort", 0, 3, s -> x.tray(1, s, 3));
        Edges.badBut("many", 0, 20, n -> x.tray(1, 0, n));
        Check.due("as it was: seven", x.pour(1, 0), 7);
        Check.due("of 16 bits", x.write(1, 6, 65535 + 300), 299);
        Edges.badBut("sort of a missing one", 0, 3, s -> x.tray(0, s, 3));
        Edges.badBut("length of a missing one", 0, 20, n -> x.tray(0, 0, n));
        Check.refused("it is still missing", IllegalStateException.class, () -> x.write(0, 0, 0));
    }

    private static void cut(int sort, long v, long due) {
        SlotCoins x = new SlotCoins();
        x.tray(3 - sort, sort, 20);
        Check.due("sort " + sort + ", " + v, x.write(3 - sort, 19, v), due);
    }

    /** Promise 41: "A number comes to a place of a TRAY, cut to its sort: as it is there." */
    private static void cutToItsSort() {
        for (int sort = 0; sort < 4; sort++) {
            int bits = 8 << sort;
            long least = -1L << bits - 1;
            long greatest = ~least;
            cut(sort, 0, 0);
            cut(sort, 1, 1);
            cut(sort, -1, -1);
            cut(sort, greatest, greatest);
            cut(sort, least, least);
            cut(sort, greatest + 1, least);
            cut(sort, least - 1, greatest);
            cut(sort, Long.MAX_VALUE, sort == 3 ? Long.MAX_VALUE : -1);
            cut(sort, Long.MIN_VALUE, sort == 3 ? Long.MIN_VALUE : 0);
            if (sort < 3) {
                cut(sort, 1L << bits, 0);
                cut(sort, (1L << bits) + 1, 1);
                cut(sort, (1L << bits) - 1, -1);
                cut(sort, -1L << bits, 0);
                cut(sort, (1L << 62) + 5, 5);
            }
        }
        cut(0, 0x123456789ABCDE7FL, 0x7F);
        cut(1, 0x123456789ABC7EF0L, 0x7EF0);
        cut(2, 0x123456787ABCDEF0L, 0x7ABCDEF0);
        cut(3, 0x123456789ABCDEF0L, 0x123456789ABCDEF0L);
        SlotCoins x = sorts(1);
        x.tray(0, 0, 1);
        Check.due("256 is 0 there", x.write(0, 0, 256), 0);
        Check.due("and a sort", x.pour(0, 0), 1);
    }

    /** Promise 41: "TRAYS 0 to 3 are MISSING at first, or rows of 0 to 20 numbers of 8 bits (sort 0), 16 (1), 32 (2), 64 (3)." */
    private static void eachTrayItsOwn() {
        SlotCoins x = sorts(8);
        for (int t = 0; t < 4; t++) {
            x.tray(t, 3 - t, 20);
        }
        for (int t = 0; t < 4; t++) {
            for (int i = 0; i < 20; i++) {
                x.write(t, i, i < 5 * t ? t : 4 + t);
            }
        }
        for (int t = 0; t < 4; t++) {
            Check.due("poured " + t, x.pour(t, t), 20);
            Check.due("its own numbers " + t, x.tube(t, 1), 20 - 5 * t);
            Check.due("the last one " + t, x.tube(t, 2), 4 + t);
        }
    }

    /** Promise 41: "IllegalStateException: it is MISSING" */
    private static void missingToWrite() {
        for (int t = 0; t < 4; t++) {
            SlotCoins x = new SlotCoins();
            int tray = t;
            for (int place : new int[] {0, -1, 20, Integer.MAX_VALUE, Integer.MIN_VALUE}) {
                Check.refused("missing " + t, IllegalStateException.class, () -> x.write(tray, place, 0));
            }
            x.tray((t + 1) % 4, 0, 1);
            Check.refused("another one is there", IllegalStateException.class, () -> x.write(tray, 0, 0));
            x.tray(t, 0, 1);
            Check.due("now it is", x.write(t, 0, 7), 7);
        }
    }

    /** Promise 41: "IndexOutOfBoundsException: it has no such place." */
    private static void noSuchPlace() {
        for (int many : new int[] {0, 1, 19, 20}) {
            SlotCoins x = new SlotCoins();
            x.tray(3, 3, many);
            for (int place : new int[] {-1, many, many + 1, 20, 21, 100, -100, Integer.MAX_VALUE, Integer.MIN_VALUE}) {
                Check.refused("place " + place + " of " + many, IndexOutOfBoundsException.class, () -> x.write(3, place, 5));
            }
            if (many > 0) {
                Check.due("the first place", x.write(3, 0, 5), 5);
                Check.due("the last place", x.write(3, many - 1, 6), 6);
            }
        }
    }

    /** Promise 42: "The numbers of a TRAY are SORTS: coins that are loaded into a TUBE, one on the other: how many it has." */
    private static void oneOnTheOther() {
        SlotCoins x = new SlotCoins();
        for (int k = 0; k < 8; k++) {
            x.sort(10, 0, 9);
        }
        x.offer(10);
        x.tray(0, 0, 8);
        for (int i = 0; i < 8; i++) {
            x.write(0, i, i);
        }
        Check.due("eight", x.pour(0, 5), 8);
        Check.due("seven strangers", x.tube(5, 1), 7);
        Check.due("due of the tube's sort", x.wheel(5, 1), 8);
        Check.due("there is one", x.wheel(5, 2), 1);
        Check.due("of another sort, too", x.wheel(7, 2), 1);
        Check.due("which isn't due", x.wheel(7, 1), 0);
        Check.tell(x, "gate ring 0 99 yes take 5 no back;");
        x.price(0, 10);
        for (int i = 0; i < 8; i++) {
            x.put(5, 0, 0, 0, 2);
            x.put(5, 0, 0, 0, 2);
            Check.due("one as change", x.sale(0), 1);
            Check.due("the last number first", x.given(0), 7 - i);
        }
        x.load(5, 5, 3);
        Check.due("on those that are there", x.pour(0, 5), 11);
        x.tray(0, 0, 0);
        Check.due("an empty tray", x.pour(0, 5), 11);
        Check.due("into an empty tube", x.pour(0, 4), 0);
    }

    /** Promise 42: "NONE, and nothing is loaded, if there would be more than 20." */
    private static void tooMuchToPour() {
        SlotCoins x = thirteen();
        Check.due("13 and 8", x.pour(1, 0), -1);
        Check.due("none of them", x.tube(0, 0), 13);
        Check.due("none is due", x.wheel(0, 1), 13);
        x.tray(1, 1, 7);
        Check.due("13 and 7", x.pour(1, 0), 20);
        Check.due("20 and 7", x.pour(1, 0), -1);
        x.tray(1, 1, 1);
        Check.due("20 and 1", x.pour(1, 0), -1);
        x.tray(1, 1, 0);
        Check.due("20 and none", x.pour(1, 0), 20);
        Edges.changesNothing("pouring more than 20", EdgesOfTraysTest::thirteen, y -> y.pour(1, 0));
        Edges.changes("pouring up to 20", EdgesOfTraysTest::thirteen, y -> y.pour(1, 1));
    }

    private static SlotCoins thirteen() {
        SlotCoins x = sorts(3);
        x.load(0, 0, 13);
        x.load(1, 1, 12);
        x.tray(1, 1, 8);
        x.write(1, 0, 2);
        return x;
    }

    /** Promise 42: "NoSuchElementException: also no such SORT of the TUBE" */
    private static void noSuchTube() {
        SlotCoins x = sorts(2);
        Edges.noneBut("tube of a missing tray", 2, tube -> x.pour(0, tube));
        x.tray(0, 0, 3);
        Edges.noneBut("tube", 2, tube -> x.pour(0, tube));
        x.write(0, 1, 99);
        Edges.noneBut("tube for no sorts", 2, tube -> x.pour(0, tube));
        SlotCoins y = new SlotCoins();
        y.tray(0, 0, 0);
        Check.none("without sorts, an empty tray", () -> y.pour(0, 0));
    }

    /** Promise 42: "IllegalStateException: it is MISSING" */
    private static void missingToPour() {
        SlotCoins x = sorts(2);
        x.load(0, 0, 20);
        for (int t = 0; t < 4; t++) {
            int tray = t;
            Check.refused("missing " + t, IllegalStateException.class, () -> x.pour(tray, 1));
            Check.refused("missing, and a full tube", IllegalStateException.class, () -> x.pour(tray, 0));
        }
    }

    /** Promise 42: "IllegalArgumentException: a number is no SORT." */
    private static void noSortToPour() {
        long[] wrong = {2, 8, 100, 127, -1, -2, -128, Integer.MAX_VALUE, Integer.MIN_VALUE, 1L << 32, (1L << 32) + 1, -1L << 32,
            1L << 63, Long.MAX_VALUE};
        for (int place : new int[] {0, 1, 2}) {
            for (long v : wrong) {
                SlotCoins x = sorts(2);
                x.tray(0, 3, 3);
                x.write(0, place, v);
                Check.bad("number " + v, () -> x.pour(0, 1));
                Check.due("nothing is loaded", x.tube(1, 0), 0);
                Check.due("nothing is due", x.wheel(1, 1), 0);
                x.load(1, 1, 20);
                Check.bad("number " + v + " into a full tube", () -> x.pour(0, 1));
            }
        }
        SlotCoins x = sorts(8);
        x.tray(0, 0, 1);
        x.write(0, 0, 7);
        Check.due("sort 7", x.pour(0, 0), 1);
        x.write(0, 0, 8);
        Check.bad("sort 8", () -> x.pour(0, 0));
    }

    /** Promise 42: "The numbers of a TRAY are SORTS" */
    private static void pourLeavesTheTray() {
        SlotCoins x = thirteen();
        Check.due("once", x.pour(1, 2), 8);
        Check.due("again", x.pour(1, 2), 16);
        Check.due("two of sort 2", x.tube(2, 1), 14);
    }

    private static SlotCoins rich() {
        SlotCoins x = sorts(3);
        x.span(1, 0, 5, 9);
        x.wear(1, 3);
        x.flow(1, 4);
        x.set(0, 1);
        x.set(1, 2);
        x.set(2, 3);
        x.set(3, 4);
        Check.tell(x, "gate weight 0 50 yes take 1 no back;");
        x.offer(1);
        x.load(1, 0, 3);
        x.load(2, 2, 3);
        x.put(1, 5, 0, 0, 0);
        x.put(1, 5, 0, 0, 1);
        x.sale(0);
        x.put(1, 5, 0, 0, 2);
        x.put(1, 6, 0, 0, 3);
        x.empty(2);
        x.cost(2, 5);
        x.buyer(0, 1, -1, -1, -1, 4);
        x.machine(2, 3);
        return x;
    }

    /** All that an image keeps is told otherwise. */
    private static void other(SlotCoins x) {
        x.sort(7, 0, 9);
        x.span(1, 0, 7, 99);
        x.wear(1, 9);
        x.flow(1, 9);
        for (int what = 0; what < 4; what++) {
            x.set(what, 9);
        }
        Check.tell(x, "gate ring 7 8 yes back no back;gate width 1 2 yes take 0 no take 1;");
        Check.tell(x, "");
        x.offer(9);
        x.price(0, 77);
        x.refund();
        x.empty(1);
        x.load(0, 2, 20);
        x.put(2, 0, 0, 0, 3);
        x.cost(0, 99);
        x.cost(2, 98);
        x.buyer(1, 2, 2, -1, -1, 9);
        x.machine(5, 5);
    }

    /** Promise 43: "An IMAGE is made." */
    private static void imageIsMade() {
        for (int i = 0; i < 3; i++) {
            SlotCoins x = sorts(1);
            x.image(i);
            x.sort(5, 0, 9);
            x.restore(i);
            Check.due("image " + i, x.count(0), 1);
            x.sort(5, 0, 9);
            x.sort(6, 0, 9);
            x.image(i);
            x.sort(7, 0, 9);
            x.restore(i);
            Check.due("made anew", x.count(0), 3);
        }
        SlotCoins x = sorts(0);
        for (int i = 0; i < 3; i++) {
            x.image(i);
            x.sort(1, 0, 9);
        }
        for (int i : new int[] {2, 0, 1, 2, 1, 0}) {
            x.restore(i);
            Check.due("each its own: " + i, x.count(0), i);
        }
        Edges.changes("an image", EdgesOfTraysTest::rich, y -> y.image(0));
    }

    /** Promise 43: "NoSuchElementException: no such one." */
    private static void noSuchImage() {
        SlotCoins x = sorts(1);
        Edges.noneBut("image", 3, i -> x.image(i));
        for (int i = 0; i < 3; i++) {
            int image = i;
            Check.refused("none was made", IllegalStateException.class, () -> x.restore(image));
        }
    }

    /** Promise 44: "NoSuchElementException: no such one" */
    private static void noSuchImageToRestore() {
        SlotCoins x = sorts(1);
        Edges.noneBut("restore", 3, i -> x.restore(i));
        for (int i = 0; i < 3; i++) {
            x.image(i);
        }
        x.sort(1, 0, 9);
        Edges.noneBut("restore of three", 3, i -> x.restore(i));
        Check.due("all is as it was", x.count(0), 2);
    }

    /** Promise 44: "IllegalStateException: none was made." */
    private static void noneWasMade() {
        for (int made = 0; made < 3; made++) {
            SlotCoins x = sorts(1);
            x.image(made);
            x.sort(1, 0, 9);
            for (int i = 0; i < 3; i++) {
                int image = i;
                if (i != made) {
                    Check.refused("image " + i, IllegalStateException.class, () -> x.restore(image));
                }
            }
            Check.due("nothing was restored", x.count(0), 2);
            x.restore(made);
            Check.due("but this", x.count(0), 1);
        }
    }

    /** Promise 44: "All is as in an IMAGE." */
    private static void allAsItWas() {
        for (int i = 0; i < 3; i++) {
            int image = i;
            // Both have the same tape, fault, trays and images: only what the image keeps could differ.
            SlotCoins due = rich();
            due.image(image);
            SlotCoins got = rich();
            got.image(image);
            other(got);
            got.restore(image);
            Check.due("restored " + i, Look.at(got).equals(Look.at(due)), true);
            SlotCoins fresh = new SlotCoins();
            fresh.image(image);
            SlotCoins empty = new SlotCoins();
            empty.image(image);
            for (int k = 0; k < 3; k++) {
                empty.sort(1, 0, 9);
            }
            empty.offer(3);
            other(empty);
            empty.restore(image);
            Check.due("all gone " + i, Look.at(empty).equals(Look.at(fresh)), true);
        }
        SlotCoins x = rich();
        x.image(0);
        x.restore(0);
        Check.due("just made", x.count(3), 1);
        SlotCoins y = sorts(2);
        y.image(2);
        y.span(1, 1, 3, 9);
        y.wear(1, 9);
        y.load(1, 1, 3);
        y.put(1, 0, 3, 0, 3);
        y.sort(50, 7, 9);
        y.span(2, 1, 3, 9);
        y.load(2, 2, 3);
        y.restore(2);
        Check.due("a sort that was told later is gone", y.sort(3, 0, 9), 2);
        Check.due("its span, too", y.coins(2), 1);
        Check.due("its tube, too", y.tube(2, 0), 0);
        Check.due("its days, too", y.good(2), true);
        Check.due("its loads, too", y.wheel(2, 1), 0);
        Check.due("spans", y.coins(1), 1);
        Check.due("wear", y.wear(1, 0), 0);
        Check.due("bag", y.bag(1), 0);
    }

    /** Promise 44: "All is as in an IMAGE." */
    private static void twoWorlds() {
        Supplier<SlotCoins> made = () -> worlds(0);
        for (int n = 3; n <= 5; n++) {
            int between = n;
            Supplier<SlotCoins> restored = () -> worlds(between);
            Check.due("a world behind another: " + n, Look.at(restored.get()).equals(Look.at(made.get())), true);
            whole("a world behind another: " + n, restored.get(), made.get());
        }
    }

    /** Promise 44: "All is as in an IMAGE." */
    private static void givenAndBuyers() {
        SlotCoins x = sorts(3);
        x.offer(3);
        Check.tell(x, "gate weight 0 99 yes take 2 no back;");
        x.image(0);
        x.put(1, 0, 0, 0, 0);
        x.put(2, 0, 0, 0, 0);
        x.put(0, 0, 0, 0, 0);
        x.refund();
        x.buyer(0, 1, 2, -1, -1, 1);
        x.image(1);
        x.restore(0);
        Check.due("nothing given yet", x.count(7) + x.given(0), -1);
        x.put(2, 0, 0, 0, 0);
        x.put(0, 0, 0, 0, 0);
        x.put(1, 0, 0, 0, 0);
        x.refund();
        x.buyer(0, 1, -1, -1, -1, 1);
        Check.due("1 of 3", x.serve(1, 0), -1);
        x.restore(1);
        Check.due("given first", x.given(0), 1);
        Check.due("given then", x.given(1), 2);
        Check.due("given last", x.given(2), 0);
        Check.due("1 and 2", x.serve(1, 0), 1);
    }

    /** A world as IMAGE 1, and restored, if another one was told in between. */
    private static SlotCoins worlds(int between) {
        SlotCoins x = new SlotCoins();
        x.image(0);
        world(x, 2);
        x.image(1);
        if (between > 0) {
            x.restore(0);
            world(x, between);
            x.restore(1);
        }
        return x;
    }

    /** What Look leaves out: coins one on the other, coins of the slide, days. */
    private static void whole(String call, SlotCoins got, SlotCoins due) {
        Check.due(call + ": given", got.given(0) * 10 + got.given(1), due.given(0) * 10 + due.given(1));
        Check.due(call + ": most", got.most(2), due.most(2));
        Check.due(call + ": dry", got.rounds(8, -1), due.rounds(8, -1));
        Check.due(call + ": filled", got.rounds(8, 1), due.rounds(8, 1));
        Check.due(call + ": explained", got.explain(0), due.explain(0));
        Check.due(call + ": refund", got.refund(), due.refund());
        for (int i = 0; i < due.count(7); i++) {
            Check.due(call + ": given back " + i, got.given(i), due.given(i));
        }
        for (int k = 0; k < due.count(0); k++) {
            Check.due(call + ": wheel " + k, got.wheel(k, 0), due.wheel(k, 0));
            Check.due(call + ": emptied " + k, got.empty(k), due.empty(k));
        }
        for (int k = 0; k < due.count(0); k++) {
            Check.due(call + ": bag " + k, got.bag(k), due.bag(k));
        }
        for (int day = 0; day < 20; day++) {
            got.set(0, day);
            due.set(0, day);
            for (int k = 0; k < due.count(0); k++) {
                Check.due(call + ": day " + day + " of " + k, got.good(k), due.good(k));
            }
            Check.due(call + ": made on day " + day, got.made(1), due.made(1));
        }
    }

    /** A world in which everything that can be told is told by a number of its own. */
    private static void world(SlotCoins x, int n) {
        for (int k = 0; k < 3; k++) {
            x.sort(n + 7 * k, k == 2 ? n : 0, 9 + n);
            x.span(k, 0, n + k, n + 2 * k);
            x.span(k, 1, n, n + k);
            x.span(k, 2, n, n + 1);
            x.wear(k, (n + k) % 3);
            x.flow(k, n * k + 1);
        }
        x.set(0, n);
        x.set(2, 1);
        x.set(3, n + 5);
        Check.tell(x, "gate weight " + n + " " + (n + 1) + " yes take 0 no next;gate width " + n + " 99 yes take " + n % 3 + " no back;");
        x.offer(n);
        x.offer(3 * n);
        x.load(0, n % 2, 5);
        x.load(0, 2, n);
        x.load(2, 1, 2);
        x.load(1, 0, n);
        x.put(0, n, n, n, 1);
        x.sale(0);
        for (int way = 0; way < 4; way++) {
            x.put(way % 3, n + way % 3, n, n, (way + n) % 4);
        }
        x.cost(n % 4, 7);
        x.buyer(n % 2, 0, n % 2 == 0 ? 1 : -1, -1, -1, n);
        x.buyer(1, 1, 2, n % 2 == 0 ? 0 : -1, -1, 2 * n - 1);
        x.machine(n % 4, 6 - n);
        x.machine(0, n);
    }

    /** Promise 44: "IMAGES 0 to 2: all but the tape" */
    private static void tapeStays() {
        SlotCoins x = sorts(1);
        x.image(0);
        Check.feedAll(x, Edges.SHUT);
        x.restore(0);
        Check.due("40 bytes", x.count(6), 40);
        Check.due("the same ones", x.text(32), 1);
        x.image(1);
        x.restore(0);
        Check.due("empty stays empty", x.count(6), 0);
        Check.feedAll(x, Edges.SHUT);
        x.image(2);
        Check.feedAll(x, "#");
        x.restore(2);
        Check.due("60 bytes", x.count(6), 60);
        x.text(60);
        x.restore(2);
        Check.due("it isn't in the image", x.count(6), 0);
    }

    /** Promise 44: "all but the tape, the FAULT" */
    private static void faultStays() {
        SlotCoins x = sorts(1);
        x.image(0);
        Check.tell(x, "gate ring 2 1");
        x.restore(0);
        Check.due("the fault of the latest text", x.fault(0), 4);
        Check.due("its place", x.fault(1), 12);
        x.image(1);
        Check.tell(x, Edges.SHUT);
        x.restore(1);
        Check.due("no fault", x.fault(0), 0);
        Check.due("no place", x.fault(1), -1);
        Check.due("but the gates are as they were", x.count(1), 0);
    }

    /** Promise 44: "and TRAYS, as it was" */
    private static void traysStay() {
        SlotCoins x = sorts(2);
        x.image(0);
        x.tray(0, 1, 3);
        x.write(0, 2, 1);
        x.restore(0);
        Check.due("three numbers", x.pour(0, 0), 3);
        Check.due("one of them 1", x.tube(0, 1), 1);
        x.image(1);
        x.tray(0, 0, 2);
        x.tray(3, 0, 1);
        x.restore(1);
        Check.due("two now", x.pour(0, 1), 2);
        Check.due("both 0", x.tube(1, 1), 2);
        Check.due("of 8 bits", x.write(0, 0, 256), 0);
        Check.due("and another one", x.pour(3, 1), 3);
    }

    /** Promise 44: "(none at first)" */
    private static void imagesStay() {
        SlotCoins x = sorts(1);
        for (int i = 0; i < 3; i++) {
            int image = i;
            Check.refused("none at first: " + i, IllegalStateException.class, () -> x.restore(image));
        }
        x.image(0);
        x.sort(1, 0, 9);
        x.image(1);
        x.restore(0);
        x.restore(1);
        Check.due("an image made later is there still", x.count(0), 2);
        Check.refused("and one that wasn't made isn't", IllegalStateException.class, () -> x.restore(2));
    }

    /** Promise 45: "0 SORTS, 1 GATES, 2 GOODS, 3 coins (and strings) on THE SLIDE, 4 BUYERS, 5 MACHINES, 6 bytes on the tape, 7 how many were GIVEN latest" */
    private static void howMany() {
        SlotCoins x = new SlotCoins();
        counts(x, 0, 0, 0, 0, 0, 0, 0, 0);
        for (int k = 0; k < 9; k++) {
            x.sort(1, 0, 9);
        }
        Check.tell(x, "gate ring 0 99 yes take 7 no back;" + Edges.SHUT.repeat(7));
        for (int i = 0; i < 9; i++) {
            x.offer(1);
            x.buyer(0, 0, -1, -1, -1, 1);
            x.machine(0, 1);
        }
        counts(x, 8, 8, 6, 0, 5, 4, 0, 0);
        for (int i = 0; i < 6; i++) {
            x.put(0, 0, 0, 0, 2);
            x.put(0, 0, 0, 0, 1);
            x.put(0, 0, 0, 0, 3);
        }
        counts(x, 8, 8, 6, 12, 5, 4, 0, 0);
        x.refund();
        counts(x, 8, 8, 6, 0, 5, 4, 0, 6);
        for (int i = 0; i < 21; i++) {
            x.feed(0, 0, 0, 0, 0);
        }
        counts(x, 8, 8, 6, 0, 5, 4, 400, 6);
        x.text(0);
        counts(x, 8, 0, 6, 0, 5, 4, 0, 6);
        x.put(0, 0, 0, 0, 3);
        x.refund();
        counts(x, 8, 0, 6, 0, 5, 4, 0, 0);
    }

    private static void counts(SlotCoins x, int... due) {
        for (int what = 0; what < 8; what++) {
            Check.due("count " + what, x.count(what), due[what]);
        }
    }

    /** Promise 45: "NONE for others." */
    private static void otherCounts() {
        SlotCoins x = rich();
        for (int what : new int[] {-1, 8, 9, -2, 100, Integer.MAX_VALUE, Integer.MIN_VALUE}) {
            Check.due("count " + what, x.count(what), -1);
        }
    }
}
