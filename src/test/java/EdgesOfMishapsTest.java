/** Boundary cases of the promises 32 to 34, and of the Terms that they use: a test for each sentence. */
public final class EdgesOfMishapsTest {
    public static void main(String[] args) {
        ofASort();
        otherOfASort();
        loadedAndWheel();
        inTubesAndBag();
        thereLessDue();
        costWas();
        costBounds();
        noSuchKind();
        costRefused();
        nothingToExplain();
        othersToExplain();
        oneMoreByStuck();
        oneLessByTheCheaper();
        slugsThatPass();
        slugsOfAnySort();
        onlyWhatIsOdd();
        noSlugThroughAnother();
        leastCost();
        fewestAndMostSlugs();
        slugsAsFarAsTheyGo();
        Check.end();
    }

    /** SORTS 0 to 2 of the values 10, 5, 7 and of the weights 10, 20, 30; SORT 3 is a slug of the weight 10. */
    private static SlotCoins shop() {
        SlotCoins x = new SlotCoins();
        Check.plain(x, 10, 10);
        Check.plain(x, 5, 20);
        Check.plain(x, 7, 30);
        Check.plain(x, 0, 10);
        Check.tell(x, "gate weight 10 10 yes take 0 no next;gate weight 20 20 yes take 1 no next;"
            + "gate weight 30 30 yes take 2 no back;");
        return x;
    }

    private static void put(SlotCoins x, int k, int way, int many) {
        for (int i = 0; i < many; i++) {
            x.put(k, k == 3 ? 10 : 10 * (k + 1), 10, 10, way);
        }
    }

    /** So many of a SORT more than are due, or less: stuck ones, or ones by string that stay on the slide. */
    private static void makeOdd(SlotCoins x, int k, int by) {
        put(x, k, by > 0 ? 3 : 2, Math.abs(by));
        Check.due("odd " + k, x.wheel(k, 3), by);
    }

    private static void wheel(SlotCoins x, int k, int wheel, int due, int there) {
        Check.due("wheel of " + k, x.wheel(k, 0), wheel);
        Check.due("due of " + k, x.wheel(k, 1), due);
        Check.due("there of " + k, x.wheel(k, 2), there);
        Check.due("odd of " + k, x.wheel(k, 3), there - due);
    }

    private static void explained(String call, SlotCoins x, int cost, int fewest, int most) {
        Check.due(call + ": cost", x.explain(0), cost);
        Check.due(call + ": fewest slugs", x.explain(1), fewest);
        Check.due(call + ": most slugs", x.explain(2), most);
    }

    /** Promise 32: "Of a SORT, what 0: its WHEEL, 1: DUE, 2: THERE, 3: ODD." */
    private static void ofASort() {
        SlotCoins x = shop();
        for (int k = 0; k < 4; k++) {
            wheel(x, k, 0, 0, 0);
        }
        x.load(0, 0, 5);
        put(x, 0, 0, 2);
        put(x, 0, 3, 4);
        wheel(x, 0, 2, 7, 9);
        x.offer(20);
        x.sale(0);
        wheel(x, 0, 2, 7, 11);
        wheel(x, 1, 0, 0, 0);
    }

    /** Promise 32: "IllegalArgumentException: another what." */
    private static void otherOfASort() {
        SlotCoins x = shop();
        Edges.badBut("wheel of 0", 0, 3, what -> x.wheel(0, what));
        Edges.badBut("wheel of 3", 0, 3, what -> x.wheel(3, what));
    }

    /** Promise 32: "DUE of SORT k: what was loaded into TUBE k and its WHEEL together" */
    private static void loadedAndWheel() {
        SlotCoins x = shop();
        x.load(0, 1, 3);
        x.load(0, 0, 17);
        wheel(x, 0, 0, 20, 17);
        wheel(x, 1, 0, 0, 3);
        x.load(0, 0, 1);
        Check.due("what finds no room isn't loaded", x.wheel(0, 1), 20);
        x.empty(0);
        wheel(x, 0, 0, 20, 17);
        x.load(0, 0, 4);
        wheel(x, 0, 0, 24, 21);
        x.offer(5);
        x.load(1, 2, 2);
        put(x, 0, 2, 1);
        Check.due("a five given as change", x.sale(0), 1);
        wheel(x, 1, -1, 1, 3);
        wheel(x, 2, 0, 0, 1);
    }

    /** Promise 32: "THERE: coins of SORT k in all TUBES and the BAG (THE SLIDE aside)." */
    private static void inTubesAndBag() {
        SlotCoins x = shop();
        for (int t = 0; t < 4; t++) {
            x.load(t, 2, 1 + t);
        }
        Check.due("in four tubes", x.wheel(2, 2), 10);
        x.empty(3);
        Check.due("three tubes and the bag", x.wheel(2, 2), 10);
        put(x, 2, 3, 2);
        Check.due("two stuck", x.wheel(2, 2), 12);
        put(x, 2, 0, 1);
        put(x, 2, 1, 1);
        put(x, 2, 2, 1);
        Check.due("those on the slide aside", x.wheel(2, 2), 12);
        x.offer(28);
        Check.due("sold", x.sale(0), 0);
        Check.due("then two of them are there", x.wheel(2, 2), 14);
        SlotCoins y = new SlotCoins();
        for (int k = 0; k < 8; k++) {
            y.sort(1, 0, 9);
        }
        y.load(7, 7, 20);
        y.load(0, 7, 20);
        Check.due("the last sort in the first tube and the last", y.wheel(7, 2), 40);
        Check.due("none of the first", y.wheel(0, 2), 0);
    }

    /** Promise 32: "ODD: THERE less DUE." */
    private static void thereLessDue() {
        SlotCoins x = shop();
        put(x, 0, 3, 1);
        Check.due("stuck: 1 more", x.wheel(0, 3), 1);
        x.offer(10);
        put(x, 1, 1, 1);
        x.sale(0);
        Check.due("doubled: 1 less", x.wheel(1, 3), -1);
        x.offer(7);
        put(x, 2, 2, 1);
        x.sale(1);
        Check.due("by string: 1 less", x.wheel(2, 3), -1);
        put(x, 3, 0, 1);
        x.sale(0);
        Check.due("a slug: 1 more", x.wheel(3, 3), 1);
        Check.due("and as what it was taken 1 less", x.wheel(0, 3), 1 - 1);
        put(x, 0, 0, 1);
        x.sale(0);
        Check.due("a right one: none", x.wheel(0, 3), 0);
        put(x, 0, 0, 3);
        Check.due("on the slide they are due, and not there", x.wheel(0, 3), -3);
        x.refund();
        Check.due("given back", x.wheel(0, 3), 0);
    }

    /** Promise 33: "The COST of a kind of MISHAPS: what it was." */
    private static void costWas() {
        SlotCoins x = new SlotCoins();
        for (int k = 0; k < 4; k++) {
            Check.due("first of " + k, x.cost(k, 10 + k), 1);
        }
        for (int k = 0; k < 4; k++) {
            Check.due("then of " + k, x.cost(k, 20 + k), 10 + k);
        }
        for (int k = 0; k < 4; k++) {
            Check.due("last of " + k, x.cost(k, 20 + k), 20 + k);
        }
    }

    /** Promise 33: "MISHAPS have COSTS (0 to 999; 1 at first)" */
    private static void costBounds() {
        for (int k = 0; k < 4; k++) {
            SlotCoins x = new SlotCoins();
            Check.due("1 at first", x.cost(k, 999), 1);
            Check.due("999 is one", x.cost(k, 0), 999);
            Check.due("0 is one", x.cost(k, 1), 0);
        }
        SlotCoins x = shop();
        makeOdd(x, 0, -3);
        makeOdd(x, 2, 5);
        explained("at 1 each", x, 8, 0, 0);
        x.cost(0, 999);
        x.cost(1, 999);
        x.cost(2, 999);
        explained("at 999 each", x, 8 * 999, 0, 0);
        x.cost(0, 0);
        x.cost(1, 0);
        explained("at 0 each", x, 0, 0, 0);
    }

    /** Promise 33: "NoSuchElementException: no such kind" */
    private static void noSuchKind() {
        SlotCoins x = new SlotCoins();
        Edges.noneBut("cost", 4, kind -> x.cost(kind, 5));
        Edges.noneBut("cost, and a number out of all bounds,", 4, kind -> x.cost(kind, 5000));
        for (int k = 0; k < 4; k++) {
            Check.due("as it was", x.cost(k, 1), 1);
        }
    }

    /** Promise 33: "IllegalArgumentException: the number." */
    private static void costRefused() {
        SlotCoins x = new SlotCoins();
        for (int k = 0; k < 4; k++) {
            int kind = k;
            x.cost(k, 7);
            Edges.badBut("cost of " + k, 0, 999, c -> x.cost(kind, c));
            Check.due("as it was", x.cost(k, 7), 7);
        }
    }

    /** Promise 34: "EXPLAINED, what 0: the COST, 1: the fewest slugs of all with that COST, 2: the most." */
    private static void nothingToExplain() {
        explained("without sorts", new SlotCoins(), 0, 0, 0);
        SlotCoins x = shop();
        x.load(0, 0, 9);
        put(x, 3, 3, 1);
        put(x, 0, 2, 1);
        explained("one of each", x, 1, 1, 1);
        x.refund();
        explained("one stuck", x, 1, 0, 0);
        x.cost(3, 0);
        SlotCoins y = shop();
        y.cost(3, 0);
        explained("nothing odd: no slugs, though they cost nothing", y, 0, 0, 0);
    }

    /** Promise 34: "IllegalArgumentException: another what." */
    private static void othersToExplain() {
        SlotCoins x = new SlotCoins();
        Edges.badBut("explain of nothing", 0, 2, what -> x.explain(what));
        SlotCoins y = shop();
        makeOdd(y, 0, -2);
        Edges.badBut("explain", 0, 2, what -> y.explain(what));
    }

    /** Promise 34: "0 stuck (one SORT 1 more)" */
    private static void oneMoreByStuck() {
        SlotCoins x = shop();
        x.cost(0, 7);
        x.cost(1, 100);
        x.cost(2, 200);
        x.cost(3, 300);
        makeOdd(x, 2, 1);
        explained("one more", x, 7, 0, 0);
        makeOdd(x, 3, 2);
        explained("three more", x, 21, 0, 0);
    }

    /** Promise 34: "1 doubled, 2 by string (one SORT 1 less)" */
    private static void oneLessByTheCheaper() {
        SlotCoins x = shop();
        x.cost(0, 500);
        makeOdd(x, 0, -1);
        makeOdd(x, 1, -2);
        x.cost(1, 7);
        x.cost(2, 9);
        explained("doubled", x, 21, 0, 0);
        x.cost(2, 6);
        explained("by string", x, 18, 0, 0);
        x.cost(1, 6);
        explained("either", x, 18, 0, 0);
        x.cost(1, 0);
        explained("doubled at 0", x, 0, 0, 0);
        x.cost(1, 5);
        x.cost(2, 0);
        explained("by string at 0", x, 0, 0, 0);
    }

    /** Promise 34: "3 slug: a coin of SORT i (1 more) was TAKEN AS k (1 less), where PASSES of i as k isn't 0." */
    private static void slugsThatPass() {
        SlotCoins x = shop();
        makeOdd(x, 0, -1);
        makeOdd(x, 3, 1);
        explained("it passes", x, 1, 1, 1);
        x.span(3, 0, 11, 11);
        explained("it doesn't", x, 2, 0, 0);
        x.span(3, 0, 10, 99);
        x.span(3, 1, 0, 99);
        x.span(3, 2, 0, 99);
        explained("few of its coins do", x, 1, 1, 1);
        Check.tell(x, "gate weight 99 99 yes next no back;gate width 99 99 yes next no back;gate ring 99 99 yes take 0 no back;");
        explained("one of 900,000 does", x, 1, 1, 1);
        Check.tell(x, "gate weight 99 99 yes next no back;gate width 99 99 yes next no back;gate ring 99 99 yes take 1 no back;");
        explained("that one, but as another sort", x, 2, 0, 0);
        Check.tell(x, "gate weight 10 10 yes take 0 no back;");
        x.set(0, 999);
        Check.due("good to 999", x.good(0), true);
        explained("good ones", x, 1, 1, 1);
        SlotCoins y = new SlotCoins();
        y.sort(10, 0, 0);
        y.sort(7, 0, 999);
        Check.tell(y, "gate weight 0 0 yes take 0 no back;");
        y.put(0, 0, 0, 0, 2);
        y.put(1, 0, 0, 0, 3);
        explained("a coin of a value can be the slug", y, 1, 1, 1);
        y.set(0, 1);
        explained("as what isn't good none passes", y, 2, 0, 0);
    }

    /** Promise 34: "a coin of SORT i (1 more) was TAKEN AS k (1 less)" */
    private static void slugsOfAnySort() {
        for (int slug = 0; slug < 8; slug++) {
            for (int as = 0; as < 8; as++) {
                if (slug != as) {
                    slugAs(slug, as);
                }
            }
        }
    }

    /** One SORT of eight that is too many, and one that lacks: now fewer of the one, now of the other. */
    private static void slugAs(int slug, int as) {
        SlotCoins x = new SlotCoins();
        for (int k = 0; k < 8; k++) {
            Check.plain(x, 1 + k, 10);
        }
        Check.tell(x, "gate weight 10 10 yes take " + as + " no back;");
        for (int i = 0; i < 3; i++) {
            x.put(as, 10, 10, 10, 2);
        }
        x.put(slug, 10, 10, 10, 3);
        explained(slug + " as " + as + ", 1 of 3", x, 3, 1, 1);
        for (int i = 0; i < 4; i++) {
            x.put(slug, 10, 10, 10, 3);
        }
        explained(slug + " as " + as + ", 5 of 3", x, 5, 3, 3);
        x.span(slug, 0, 11, 11);
        explained(slug + " isn't taken", x, 8, 0, 0);
    }

    /** Promise 34: "(none makes a SORT more whose ODD isn't above 0, or less whose ODD isn't below 0)" */
    private static void onlyWhatIsOdd() {
        SlotCoins x = shop();
        makeOdd(x, 3, 4);
        explained("0 isn't below 0", x, 4, 0, 0);
        makeOdd(x, 0, -1);
        explained("one slug, no more", x, 4, 1, 1);
        makeOdd(x, 1, -2);
        explained("the others are less by string", x, 6, 1, 1);
        SlotCoins y = shop();
        makeOdd(y, 0, -4);
        explained("0 isn't above 0", y, 4, 0, 0);
        makeOdd(y, 3, 1);
        explained("one slug, no more", y, 4, 1, 1);
        SlotCoins z = shop();
        put(z, 0, 3, 2);
        put(z, 3, 3, 2);
        z.cost(3, 0);
        explained("what is above 0 itself isn't made less", z, 4, 0, 0);
    }

    /** Promise 34: "(none makes a SORT more whose ODD isn't above 0" */
    private static void noSlugThroughAnother() {
        SlotCoins x = shop();
        // SORT 3 passes as 0 alone, and SORT 0 (whose ODD is 0) as 1 alone, which lacks one.
        Check.tell(x, "gate weight 20 20 yes take 1 no next;gate width 11 11 yes take 0 no back;");
        x.span(3, 1, 11, 11);
        x.put(1, 20, 10, 10, 2);
        x.put(3, 10, 11, 10, 3);
        x.span(0, 0, 20, 20);
        Check.due("3 as 0", x.passes(3, 0), 1);
        Check.due("0 as 1", x.passes(0, 1), 1);
        Check.due("3 as 1", x.passes(3, 1), 0);
        x.cost(0, 100);
        x.cost(1, 100);
        x.cost(2, 100);
        explained("no slug over a sort that isn't odd", x, 200, 0, 0);
        x.span(3, 0, 20, 20);
        explained("a slug", x, 1, 1, 1);
    }

    /** Promise 34: "EXPLAINED: MISHAPS that are together all ODD numbers, at the least COST" */
    private static void leastCost() {
        SlotCoins x = shop();
        makeOdd(x, 0, -3);
        makeOdd(x, 3, 2);
        int[][] costs = {{1, 1, 1, 1}, {5, 9, 7, 11}, {5, 7, 9, 12}, {5, 9, 7, 13}, {0, 0, 0, 999}, {999, 999, 999, 999},
            {999, 999, 999, 0}, {3, 0, 5, 2}, {3, 4, 0, 4}, {0, 1, 1, 1}, {1, 0, 0, 1}};
        for (int[] c : costs) {
            for (int k = 0; k < 4; k++) {
                x.cost(k, c[k]);
            }
            int missing = Math.min(c[1], c[2]);
            int two = Math.min(c[3], c[0] + missing) * 2 + missing;
            Check.due("costs " + c[0] + " " + c[1] + " " + c[2] + " " + c[3], x.explain(0), two);
        }
    }

    /** Promise 34: "1: the fewest slugs of all with that COST, 2: the most." */
    private static void fewestAndMostSlugs() {
        SlotCoins x = shop();
        makeOdd(x, 0, -3);
        makeOdd(x, 3, 2);
        x.cost(3, 2);
        explained("a slug costs as much as a stuck one and a string", x, 5, 0, 2);
        x.cost(3, 1);
        explained("1 less", x, 3, 2, 2);
        x.cost(3, 3);
        explained("1 more", x, 5, 0, 0);
        x.cost(0, 2);
        x.cost(1, 9);
        explained("as much again", x, 7, 0, 2);
        x.cost(2, 9);
        explained("now neither is cheap", x, 15, 2, 2);
    }

    /** Promise 34: "2: the most." */
    private static void slugsAsFarAsTheyGo() {
        SlotCoins x = new SlotCoins();
        Check.plain(x, 10, 10);
        Check.plain(x, 20, 20);
        Check.plain(x, 30, 30);
        for (int k = 3; k < 6; k++) {
            Check.plain(x, 0, 10);
        }
        x.span(3, 0, 10, 30);
        x.span(4, 0, 10, 20);
        Check.tell(x, "gate weight 10 10 yes take 0 no next;gate weight 20 20 yes take 1 no next;gate weight 30 30 yes take 2 no back;");
        for (int k = 0; k < 3; k++) {
            x.put(k, 10 * (k + 1), 10, 10, 2);
            x.put(k + 3, 10, 10, 10, 3);
        }
        explained("3 as the third, 4 as the second, 5 as the first", x, 3, 3, 3);
        x.span(3, 0, 10, 29);
        explained("none as the third", x, 4, 2, 2);
        x.span(4, 0, 10, 19);
        explained("3 as the second", x, 4, 2, 2);
        x.span(3, 0, 10, 19);
        explained("all as the first", x, 5, 1, 1);
        x.cost(3, 2);
        explained("or none", x, 6, 0, 1);
    }
}
