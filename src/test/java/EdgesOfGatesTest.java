/** Boundary cases of the promises 12 to 18, and of the Terms that they use: a test for each sentence. */
public final class EdgesOfGatesTest {
    private static final String[] MEASURES = {"weight", "width", "ring"};

    public static void main(String[] args) {
        takenWithin();
        takenRefused();
        fromOneToTheOther();
        firstGateFirst();
        goals();
        behindTheLast();
        noSortToTakeAs();
        readAsItIs();
        ringAndWarmth();
        howManyCoins();
        wornCoins();
        takenAs();
        countedExactly();
        passesOfBoth();
        passesAsItself();
        roundedDown();
        refusedIfGood();
        byHowMuchAbove();
        notGoodCountsNothing();
        greatestWrong();
        lossOfAll();
        movesWithin();
        keptWithin();
        nothingBetween();
        lossLeavesTheGate();
        bestWhats();
        otherBests();
        reachOfBest();
        nearestOfLikeOnes();
        leastOfLikeOnes();
        movedFromNowOn();
        notMoved();
        moveRefused();
        Check.end();
    }

    private static int one(SlotCoins x, int measure, int v) {
        return x.taken(measure == 0 ? v : 50, measure == 1 ? v : 50, measure == 2 ? v : 50);
    }

    /** Promise 12: "As what a coin with such weight, width, ring (0 to 99 each) is TAKEN; NONE." */
    private static void takenWithin() {
        SlotCoins x = new SlotCoins();
        x.sort(1, 0, 9);
        x.sort(2, 0, 9);
        Check.tell(x, "gate weight 0 0 yes take 0 no next;gate width 0 0 yes take 0 no next;gate ring 0 0 yes take 0 no next;"
            + "gate weight 99 99 yes take 1 no next;gate width 99 99 yes take 1 no next;gate ring 99 99 yes take 1 no next;");
        for (int m = 0; m < 3; m++) {
            Check.due("0 of " + m, one(x, m, 0), 0);
            Check.due("1 of " + m, one(x, m, 1), -1);
            Check.due("98 of " + m, one(x, m, 98), -1);
            Check.due("99 of " + m, one(x, m, 99), 1);
        }
        Check.due("no coin of any sort need be so", x.coins(0) + x.coins(1), 2);
    }

    /** Promise 12: "IllegalArgumentException: a number." */
    private static void takenRefused() {
        SlotCoins x = new SlotCoins();
        for (int m = 0; m < 3; m++) {
            int measure = m;
            Edges.badBut("taken " + m, 0, 99, v -> one(x, measure, v));
        }
        x.set(2, 10);
        Check.bad("warmth makes no ring of -1", () -> x.taken(0, 0, -1));
        x.set(2, -10);
        Check.bad("nor of 100", () -> x.taken(0, 0, 100));
    }

    /** Promise 12: "if what is read of that MEASURE is from the first N to the second one, it goes to the GOAL of yes, else of no" */
    private static void fromOneToTheOther() {
        int[][] spans = {{0, 0}, {99, 99}, {0, 99}, {40, 49}, {1, 98}, {7, 7}};
        for (int m = 0; m < 3; m++) {
            for (int[] span : spans) {
                SlotCoins x = new SlotCoins();
                x.sort(1, 0, 9);
                x.sort(2, 0, 9);
                Check.tell(x, "gate " + MEASURES[m] + " " + span[0] + " " + span[1] + " yes take 1 no take 0;");
                for (int v = 0; v <= 99; v++) {
                    Check.due(MEASURES[m] + " " + v, one(x, m, v), v >= span[0] && v <= span[1] ? 1 : 0);
                }
            }
        }
    }

    /** Promise 12: "A COIN comes to the first GATE" */
    private static void firstGateFirst() {
        SlotCoins x = new SlotCoins();
        for (int k = 0; k < 8; k++) {
            x.sort(1, 0, 9);
        }
        StringBuilder text = new StringBuilder();
        for (int k = 0; k < 8; k++) {
            text.append("gate weight ").append(k).append(" 99 yes take ").append(k).append(" no next;");
        }
        Check.due("eight", Check.tell(x, text.toString()), 8);
        for (int v = 0; v < 100; v++) {
            Check.due("the first gate takes " + v, x.taken(v, 0, 0), 0);
        }
        Check.tell(x, "gate weight 99 99 yes take 7 no next;" + text.substring(0, 7 * 36));
        Check.due("another first one", x.taken(99, 0, 0), 7);
        Check.due("then the second one", x.taken(98, 0, 0), 0);
    }

    /** Promise 12: "next: the GATE behind it, skip: that behind this one, take k: it is TAKEN AS SORT k, back: it is refused." */
    private static void goals() {
        String rest = "gate width 0 99 yes take 1 no take 1;gate width 0 99 yes take 2 no take 2;gate width 0 99 yes take 3 no take 3;";
        String[] goals = {"next", "skip", "take 0", "take 3", "back"};
        int[] due = {1, 2, 0, 3, -1};
        for (int yes = 0; yes < goals.length; yes++) {
            for (int no = 0; no < goals.length; no++) {
                SlotCoins x = new SlotCoins();
                for (int k = 0; k < 4; k++) {
                    x.sort(1 + k, 0, 9);
                }
                Check.tell(x, "gate weight 5 5 yes " + goals[yes] + " no " + goals[no] + ";" + rest);
                Check.due("yes " + goals[yes], x.taken(5, 0, 0), due[yes]);
                Check.due("no " + goals[no], x.taken(6, 0, 0), due[no]);
            }
        }
    }

    /** Promise 12: "Behind the last GATE (and without GATES) it is refused" */
    private static void behindTheLast() {
        SlotCoins x = new SlotCoins();
        x.sort(1, 0, 9);
        Check.due("without gates", x.taken(0, 0, 0), -1);
        String[] goals = {"next", "skip"};
        for (String goal : goals) {
            String through = "gate weight 5 5 yes " + goal + " no " + goal + ";";
            for (int many = 1; many <= 8; many++) {
                SlotCoins y = new SlotCoins();
                y.sort(1, 0, 9);
                Check.due("gates", Check.tell(y, through.repeat(many)), many);
                Check.due(goal + " behind the last of " + many, y.taken(5, 0, 0), -1);
                Check.due(goal + " behind it with no", y.taken(6, 0, 0), -1);
                Check.due("all of them", y.passes(0, -1), 1);
            }
        }
        Check.tell(x, "gate weight 0 99 yes skip no back;gate weight 0 99 yes take 0 no take 0;");
        Check.due("skip just behind the last", x.taken(0, 0, 0), -1);
        Check.tell(x, "gate weight 0 99 yes next no back;gate weight 0 99 yes skip no skip;");
        Check.due("skip beyond it", x.taken(0, 0, 0), -1);
        Check.tell(x, "");
        Check.due("without gates again", x.taken(0, 0, 0), -1);
    }

    /** Promise 12: "so, too, if SORT k isn't there, or isn't GOOD." */
    private static void noSortToTakeAs() {
        SlotCoins x = new SlotCoins();
        Check.tell(x, "gate weight 1 1 yes take 0 no next;gate weight 2 2 yes take 1 no next;gate weight 7 7 yes take 7 no take 2;");
        Check.due("no sort 0", x.taken(1, 0, 0), -1);
        x.sort(5, 3, 5);
        Check.due("not yet good", x.taken(1, 0, 0), -1);
        int[] days = {2, 3, 5, 6};
        int[] due = {-1, 0, 0, -1};
        for (int i = 0; i < 4; i++) {
            x.set(0, days[i]);
            Check.due("on day " + days[i], x.taken(1, 0, 0), due[i]);
        }
        Check.due("no sort 1", x.taken(2, 0, 0), -1);
        x.sort(0, 0, 999);
        Check.due("a slug", x.taken(2, 0, 0), -1);
        Check.due("no sort 2", x.taken(9, 0, 0), -1);
        for (int k = 2; k < 8; k++) {
            Check.due("no sort 7", x.taken(7, 0, 0), -1);
            x.sort(1, 0, 999);
        }
        Check.due("sort 7", x.taken(7, 0, 0), 7);
        Check.due("sort 2", x.taken(9, 0, 0), 2);
    }

    /** Promise 12: "What is read of a COIN: weight and width as they are" */
    private static void readAsItIs() {
        for (int m = 0; m < 2; m++) {
            SlotCoins x = new SlotCoins();
            x.sort(1, 0, 9);
            x.wear(0, 9);
            x.set(1, 20);
            x.set(2, 10);
            Check.tell(x, "gate " + MEASURES[m] + " 40 49 yes take 0 no back;");
            Check.due("39", one(x, m, 39), -1);
            Check.due("40", one(x, m, 40), 0);
            Check.due("49", one(x, m, 49), 0);
            Check.due("50", one(x, m, 50), -1);
            x.set(2, -10);
            Check.due("40 when it is cold", one(x, m, 40), 0);
            Check.due("50 when it is cold", one(x, m, 50), -1);
        }
    }

    /** Promise 12: "ring and WARMTH together (never below 0 or above 99)." */
    private static void ringAndWarmth() {
        int[][] spans = {{0, 0}, {99, 99}, {0, 99}, {0, 3}, {96, 99}, {50, 50}, {5, 14}, {85, 94}, {1, 98}};
        for (int[] span : spans) {
            for (int warmth = -10; warmth <= 10; warmth++) {
                SlotCoins x = new SlotCoins();
                x.sort(1, 0, 9);
                x.span(0, 2, 0, 99);
                x.set(2, warmth);
                Check.tell(x, "gate ring " + span[0] + " " + span[1] + " yes take 0 no back;");
                int many = 0;
                for (int ring = 0; ring <= 99; ring++) {
                    int read = Math.max(0, Math.min(99, ring + warmth));
                    boolean in = read >= span[0] && read <= span[1];
                    many += in ? 1 : 0;
                    Check.due("ring " + ring + ", warmth " + warmth, x.taken(7, 7, ring), in ? 0 : -1);
                }
                Check.due("as many pass", x.passes(0, 0), many);
            }
        }
    }

    /** Promise 13: "How many COINS a SORT has." */
    private static void howManyCoins() {
        SlotCoins x = new SlotCoins();
        x.sort(1, 0, 9);
        Check.due("one at least", x.coins(0), 1);
        x.span(0, 0, 0, 99);
        x.span(0, 1, 0, 99);
        x.span(0, 2, 0, 99);
        Check.due("a million at most", x.coins(0), 1000000);
        x.set(2, 10);
        Check.due("warm ones are as many", x.coins(0), 1000000);
        x.set(0, 10);
        Check.due("on other days, too", x.coins(0), 1000000);
    }

    /** Promise 13: "COINS of a SORT: all rows of three numbers, the first one of its SPAN of weight less WEAR times AGE by 10 (rounded down; both ends, never below 0), the others of their SPANS." */
    private static void wornCoins() {
        for (int wear = 0; wear <= 9; wear++) {
            SlotCoins x = new SlotCoins();
            x.sort(1, 0, 9);
            x.span(0, 0, 10, 20);
            x.span(0, 1, 5, 6);
            x.span(0, 2, 0, 2);
            x.wear(0, wear);
            for (int age = 0; age <= 20; age++) {
                x.set(1, age);
                int less = wear * age / 10;
                int low = Math.max(0, 10 - less);
                int high = Math.max(0, 20 - less);
                Check.due("wear " + wear + ", age " + age, x.coins(0), (high - low + 1) * 6L);
                Check.due("the lightest", x.put(0, low, 5, 0, 3), 0);
                Check.due("the heaviest", x.put(0, high, 6, 2, 3), 0);
                Check.bad("lighter", () -> x.put(0, low - 1, 5, 0, 3));
                Check.bad("heavier", () -> x.put(0, high + 1, 5, 0, 3));
            }
        }
        SlotCoins x = new SlotCoins();
        x.sort(1, 0, 9);
        x.span(0, 0, 3, 17);
        x.wear(0, 9);
        x.set(1, 20);
        Check.due("18 less: all weigh 0", x.coins(0), 1);
        Check.tell(x, "gate weight 0 0 yes take 0 no back;");
        Check.due("that one passes", x.passes(0, 0), 1);
        x.span(0, 0, 3, 18);
        Check.due("18 less 18", x.coins(0), 1);
        x.span(0, 0, 3, 19);
        Check.due("19 less 18", x.coins(0), 2);
        x.set(1, 0);
        Check.due("unworn", x.coins(0), 17);
    }

    /** Promise 14: "PASSES of SORT i as k: how many of its COINS are TAKEN AS k (k NONE: refused)." */
    private static void takenAs() {
        SlotCoins x = new SlotCoins();
        for (int k = 0; k < 8; k++) {
            x.sort(1 + k, 0, 9);
        }
        x.span(0, 0, 0, 99);
        x.span(0, 1, 0, 99);
        x.span(0, 2, 0, 99);
        Check.due("all refused", x.passes(0, -1), 1000000);
        for (int k = 0; k < 8; k++) {
            Check.due("none as " + k, x.passes(0, k), 0);
        }
        Check.tell(x, "gate weight 0 0 yes take 0 no next;gate weight 99 99 yes take 7 no next;gate width 0 9 yes take 1 no next;"
            + "gate ring 50 99 yes take 2 no back;");
        Check.due("weight 0", x.passes(0, 0), 10000);
        Check.due("weight 99", x.passes(0, 7), 10000);
        Check.due("width below 10", x.passes(0, 1), 98 * 10 * 100);
        Check.due("ring from 50 on", x.passes(0, 2), 98 * 90 * 50);
        Check.due("refused", x.passes(0, -1), 98 * 90 * 50);
        Check.due("none as 3", x.passes(0, 3), 0);
        x.set(0, 10);
        Check.due("none is good: all refused", x.passes(0, -1), 1000000);
        Check.due("none as 2", x.passes(0, 2), 0);
    }

    /** Promise 14: "how many of its COINS are TAKEN AS k" */
    private static void countedExactly() {
        String[] texts = {
            "gate weight 41 42 yes next no skip;gate width 11 12 yes take 1 no next;gate ring 50 51 yes take 0 no skip;gate width 9 11 yes take 2 no next;",
            "gate ring 52 99 yes take 0 no next;gate width 10 10 yes skip no next;gate weight 43 99 yes take 1 no next;gate weight 40 41 yes take 2 no take 7;",
            "gate width 12 13 yes skip no skip;gate ring 0 99 yes take 0 no take 0;gate width 13 13 yes take 1 no next;gate ring 51 51 yes take 2 no back;",
            Edges.SHUT,
        };
        for (String text : texts) {
            for (int warmth = -2; warmth <= 2; warmth++) {
                SlotCoins x = new SlotCoins();
                for (int k = 0; k < 3; k++) {
                    x.sort(1 + k, 0, 9);
                }
                x.set(2, warmth);
                x.span(0, 0, 40, 44);
                x.span(0, 1, 9, 13);
                x.span(0, 2, 49, 53);
                Check.tell(x, text);
                int[] many = new int[4];
                for (int i = 0; i < 125; i++) {
                    many[x.taken(40 + i % 5, 9 + i / 5 % 5, 49 + i / 25) + 1]++;
                }
                for (int as = -1; as < 3; as++) {
                    Check.due("as " + as + " by " + text, x.passes(0, as), many[as + 1]);
                }
            }
        }
        seventeenStretches();
    }

    /** Eight GATES of one measure cut it into seventeen stretches. */
    private static void seventeenStretches() {
        for (int m = 0; m < 3; m++) {
            SlotCoins x = new SlotCoins();
            for (int k = 0; k < 8; k++) {
                x.sort(1 + k, 0, 9);
            }
            x.span(0, m, 0, 99);
            x.span(0, (m + 1) % 3, 7, 9);
            StringBuilder text = new StringBuilder();
            for (int g = 0; g < 8; g++) {
                text.append("gate ").append(MEASURES[m]).append(' ').append(11 * g + 3).append(' ').append(12 * g + 3).append(" yes take ")
                    .append(g).append(" no next;");
            }
            Check.due("eight", Check.tell(x, text.toString()), 8);
            for (int g = 0; g < 8; g++) {
                Check.due("as " + g, x.passes(0, g), 3 * (g + 1));
            }
            Check.due("refused", x.passes(0, -1), 3 * (100 - 36));
        }
    }

    /** Promise 14: "NoSuchElementException: no such SORT (of both)." */
    private static void passesOfBoth() {
        SlotCoins x = new SlotCoins();
        x.sort(1, 0, 9);
        x.sort(2, 0, 9);
        Edges.noneBut("passes of", 2, k -> x.passes(k, 0));
        Edges.noneBut("passes of none", 2, k -> x.passes(k, -1));
        for (int k : Edges.NOWHERE) {
            if (k != -1) {
                Check.none("passes as " + k, () -> x.passes(0, k));
            }
        }
        Check.none("passes as 2", () -> x.passes(0, 2));
        Check.due("passes as none", x.passes(1, -1), 1);
        SlotCoins y = new SlotCoins();
        Check.none("without sorts, as none", () -> y.passes(0, -1));
        Check.none("none as none", () -> y.passes(-1, -1));
    }

    /** Promise 14: "PASSES of a SORT as another one, or as itself (as NONE: refused)." */
    private static void passesAsItself() {
        SlotCoins x = new SlotCoins();
        Check.plain(x, 5, 10);
        Check.plain(x, 6, 20);
        Check.tell(x, "gate weight 10 10 yes take 0 no next;gate weight 20 20 yes take 0 no back;");
        Check.due("0 as itself", x.passes(0, 0), 1);
        Check.due("1 as another", x.passes(1, 0), 1);
        Check.due("1 as itself", x.passes(1, 1), 0);
        Check.due("1 refused", x.passes(1, -1), 0);
        x.span(1, 0, 21, 22);
        Check.due("1 refused then", x.passes(1, -1), 2);
    }

    /** Promise 15: "1,000,000 times the sum over its COINS by how many there are, rounded down" */
    private static void roundedDown() {
        SlotCoins x = new SlotCoins();
        x.sort(5, 0, 9);
        x.span(0, 0, 1, 3);
        Check.tell(x, "gate weight 2 3 yes take 0 no back;");
        Check.due("one of three refused", x.wrong(0), 3333333);
        Check.tell(x, "gate weight 3 3 yes take 0 no back;");
        Check.due("two of three", x.wrong(0), 6666666);
        Check.tell(x, "");
        Check.due("three of three", x.wrong(0), 10000000);
        x.span(0, 0, 1, 7);
        x.set(3, 1);
        Check.tell(x, "gate weight 1 6 yes take 0 no back;");
        Check.due("one of seven", x.wrong(0), 142857);
        x.set(3, 0);
        Check.due("at 0", x.wrong(0), 0);
    }

    /** Promise 15: "for each COIN that is refused, if the SORT is GOOD, REFUSAL (0 to 999, 10 at first)" */
    private static void refusedIfGood() {
        SlotCoins x = new SlotCoins();
        x.sort(5, 3, 5);
        x.sort(0, 0, 999);
        int[] days = {2, 3, 5, 6};
        for (int i = 0; i < 4; i++) {
            x.set(0, days[i]);
            Check.due("refused on day " + days[i], x.wrong(0), i == 1 || i == 2 ? 10000000 : 0);
            Check.due("a refused slug", x.wrong(1), 0);
        }
        x.set(0, 3);
        x.set(3, 999);
        Check.due("at 999", x.wrong(0), 999000000);
        x.set(3, 0);
        Check.due("at 0", x.wrong(0), 0);
    }

    /** Promise 15: "for each that is TAKEN AS another one, by how much that one's VALUE is above its own" */
    private static void byHowMuchAbove() {
        SlotCoins x = new SlotCoins();
        x.sort(10, 0, 9);
        x.sort(10, 0, 9);
        x.sort(11, 0, 9);
        x.sort(9, 0, 9);
        x.sort(200, 0, 9);
        x.span(0, 0, 0, 4);
        String[] texts = {"take 0", "take 1", "take 2", "take 3", "take 4"};
        long[] due = {0, 0, 1000000, 0, 190000000};
        for (int i = 0; i < texts.length; i++) {
            Check.tell(x, "gate weight 0 99 yes " + texts[i] + " no back;");
            Check.due("all " + texts[i], x.wrong(0), due[i]);
        }
        Check.tell(x, "gate weight 0 1 yes take 3 no next;gate weight 2 2 yes take 2 no take 0;");
        Check.due("lesser ones make nothing good", x.wrong(0), 1000000 / 5);
        x.span(3, 0, 0, 4);
        Check.due("9 as itself, as 11, as 10", x.wrong(3), (0 + 2 + 2) * 1000000 / 5);
    }

    /** Promise 15: "(a SORT that isn't GOOD counts as VALUE 0)" */
    private static void notGoodCountsNothing() {
        SlotCoins x = new SlotCoins();
        x.sort(7, 3, 5);
        x.sort(10, 0, 9);
        x.sort(5, 0, 9);
        Check.tell(x, "gate weight 0 99 yes take 1 no back;");
        int[] days = {2, 3, 5, 6};
        for (int i = 0; i < 4; i++) {
            x.set(0, days[i]);
            Check.due("as 10 on day " + days[i], x.wrong(0), i == 1 || i == 2 ? 3000000 : 10000000);
        }
        Check.tell(x, "gate weight 0 99 yes take 2 no back;");
        Check.due("as a lesser one: 5 above 0", x.wrong(0), 5000000);
        Check.tell(x, "gate weight 0 99 yes take 0 no back;");
        Check.due("as itself, which isn't good: refused, for nothing", x.wrong(0), 0);
        Check.due("another one as that: refused", x.wrong(1), 10000000);
    }

    /** Promise 15: "WRONG of a SORT." */
    private static void greatestWrong() {
        SlotCoins x = new SlotCoins();
        x.sort(5, 0, 9);
        for (int m = 0; m < 3; m++) {
            x.span(0, m, 0, 99);
        }
        x.set(3, 999);
        Check.due("a million refused at 999", x.wrong(0), 999000000);
        x.sort(0, 0, 9);
        x.sort(200, 0, 9);
        for (int m = 0; m < 3; m++) {
            x.span(1, m, 0, 99);
        }
        Check.tell(x, "gate ring 0 99 yes take 2 no back;");
        Check.due("a million slugs taken as 200", x.wrong(1), 200000000);
        Check.tell(x, "gate ring 0 0 yes next no take 2;gate width 0 0 yes next no take 2;gate weight 0 0 yes back no take 2;");
        Check.due("all but one", x.wrong(1), 199999800);
        Check.due("all but one as 195 more, one at 999", x.wrong(0), 999999L * 195 + 999);
    }

    /** Promise 16: "LOSS: the sum over all SORTS of FLOW times WRONG." */
    private static void lossOfAll() {
        SlotCoins x = new SlotCoins();
        x.sort(5, 0, 9);
        x.span(0, 0, 1, 3);
        Check.tell(x, "gate weight 2 3 yes take 0 no back;");
        Check.due("without flow", x.loss(0, 0, 0), 0);
        x.flow(0, 3);
        Check.due("each is rounded first", x.loss(0, 0, 0), 9999999);
        for (int k = 1; k < 8; k++) {
            x.sort(5, 0, 9);
            x.flow(k, 1000);
        }
        x.set(3, 999);
        Check.due("seven refused at 999", x.loss(0, 0, 0), 3 * 333000000L + 7 * 999000000000L);
    }

    private static SlotCoins weighed() {
        SlotCoins x = new SlotCoins();
        x.sort(5, 0, 9);
        x.span(0, 0, 0, 99);
        x.flow(0, 1);
        x.set(3, 1);
        return x;
    }

    /** What is lost, if so many of the 100 COINS of weighed() are refused. */
    private static long refused(int many) {
        return many * 10000L;
    }

    /** Promise 16: "LOSS with a GATE MOVED by d and e (-99 to 99 each)." */
    private static void movesWithin() {
        SlotCoins x = weighed();
        Check.tell(x, "gate weight 0 99 yes back no take 0;gate weight 1 1 yes back no back;");
        Edges.badBut("loss d", -99, 99, d -> x.loss(0, d, 0));
        Edges.badBut("loss e", -99, 99, e -> x.loss(0, 0, e));
        Check.bad("both", () -> x.loss(0, 100, -100));
        Check.due("99 and 0", x.loss(0, 99, 0), refused(1));
        Check.due("0 and -99", x.loss(0, 0, -99), refused(1));
        Check.due("99 and -99: nothing between", x.loss(0, 99, -99), 0);
        Check.due("-99 and 99", x.loss(0, -99, 99), refused(100));
    }

    /** Promise 16: "MOVED: a GATE with d more at its first N and e more at its second one (both kept within 0 to 99" */
    private static void keptWithin() {
        SlotCoins x = weighed();
        Check.tell(x, "gate weight 40 49 yes take 0 no back;");
        for (int by = -99; by <= 99; by += 3) {
            int first = Math.max(0, Math.min(99, 40 + by));
            Check.due("first by " + by, x.loss(0, by, 0), refused(100 - Math.max(0, 49 - first + 1)));
            int second = Math.max(0, Math.min(99, 49 + by));
            Check.due("second by " + by, x.loss(0, 0, by), refused(100 - Math.max(0, second - 40 + 1)));
            Check.due("both by " + by, x.loss(0, by, by), refused(100 - (second - first + 1)));
        }
        keptByTheRing();
    }

    /** Kept within 0 to 99 first; WARMTH comes on top of that. */
    private static void keptByTheRing() {
        SlotCoins x = new SlotCoins();
        x.sort(5, 0, 9);
        x.span(0, 2, 0, 99);
        x.flow(0, 1);
        x.set(3, 1);
        Check.tell(x, "gate ring 3 96 yes take 0 no back;");
        x.set(2, -5);
        Check.due("read as 0 to 94: 3 to 94 of 100", x.loss(0, 0, 0), refused(8));
        Check.due("from 0 on: all", x.loss(0, -9, 0), refused(0));
        Check.due("from 0 to 0: ring 0 to 5", x.loss(0, -99, -99), refused(94));
        x.set(2, 5);
        Check.due("read as 5 to 99: up to 96", x.loss(0, 0, 0), refused(8));
        Check.due("up to 99: all", x.loss(0, 0, 9), refused(0));
        Check.due("99 to 99: ring 94 to 99", x.loss(0, 99, 99), refused(94));
    }

    /** Promise 16: "if the first is above the second then, nothing is from one to the other" */
    private static void nothingBetween() {
        SlotCoins x = weighed();
        Check.tell(x, "gate weight 50 52 yes take 0 no back;");
        Check.due("2 more: one left", x.loss(0, 2, 0), refused(99));
        Check.due("3 more: none", x.loss(0, 3, 0), refused(100));
        Check.due("2 less: one left", x.loss(0, 0, -2), refused(99));
        Check.due("3 less: none", x.loss(0, 0, -3), refused(100));
        Check.due("1 and -1: one left", x.loss(0, 1, -1), refused(99));
        Check.due("2 and -1: none", x.loss(0, 2, -1), refused(100));
        Check.tell(x, "gate weight 50 52 yes back no take 0;");
        Check.due("then no goes for all", x.loss(0, 3, 0), refused(0));
        Check.tell(x, "gate weight 99 99 yes take 0 no back;");
        Check.due("first kept at 99", x.loss(0, 1, 0), refused(99));
        Check.tell(x, "gate weight 0 0 yes take 0 no back;");
        Check.due("second kept at 0", x.loss(0, 0, -1), refused(99));
    }

    /** Promise 16: "LOSS with a GATE MOVED" */
    private static void lossLeavesTheGate() {
        SlotCoins x = weighed();
        Check.tell(x, "gate weight 40 49 yes take 0 no next;gate weight 60 69 yes take 0 no back;");
        Check.due("the second one moved", x.loss(1, 0, 5), refused(75));
        Check.due("the first one moved", x.loss(0, -5, 0), refused(75));
        Check.due("none moved", x.loss(0, 0, 0), refused(80));
        Check.due("as it was", x.gate(0, 1) + x.gate(0, 2) + x.gate(1, 1) + x.gate(1, 2), 40 + 49 + 60 + 69);
        Edges.changesNothing("loss", EdgesOfGatesTest::twoGates, y -> y.loss(1, 99, -99));
        Edges.changesNothing("best", EdgesOfGatesTest::twoGates, y -> y.best(1, 0));
    }

    private static SlotCoins twoGates() {
        SlotCoins x = weighed();
        Check.tell(x, "gate weight 40 49 yes take 0 no next;gate weight 60 69 yes take 0 no back;");
        return x;
    }

    private static void best(String call, SlotCoins x, int gate, int d, int e, long loss) {
        Check.due(call + ": d", x.best(gate, 0), d);
        Check.due(call + ": e", x.best(gate, 1), e);
        Check.due(call + ": loss", x.best(gate, 2), loss);
    }

    /** Promise 17: "BEST MOVE of a GATE, what 0: d, 1: e, 2: LOSS." */
    private static void bestWhats() {
        SlotCoins x = weighed();
        x.span(0, 0, 40, 49);
        Check.tell(x, "gate weight 90 99 yes take 0 no next;gate weight 42 50 yes take 0 no back;");
        best("the second gate", x, 1, -2, 0, 0);
        best("the first gate", x, 0, 0, 0, 200000);
        Check.tell(x, "gate weight 38 46 yes take 0 no back;");
        best("the end", x, 0, 0, 3, 0);
        Check.tell(x, "gate weight 44 44 yes take 0 no back;");
        best("as far as it goes", x, 0, -4, 4, 100000);
    }

    /** Promise 17: "IllegalArgumentException: another what." */
    private static void otherBests() {
        SlotCoins x = twoGates();
        Edges.badBut("best of 0", 0, 2, what -> x.best(0, what));
        Edges.badBut("best of 1", 0, 2, what -> x.best(1, what));
    }

    /** Promise 17: "of d and e from -4 to 4 each that with the least LOSS" */
    private static void reachOfBest() {
        for (int far = 1; far <= 6; far++) {
            SlotCoins x = new SlotCoins();
            Check.plain(x, 5, 50 - far);
            x.flow(0, 1);
            x.set(3, 1);
            Check.tell(x, "gate weight 50 60 yes take 0 no back;");
            best("a coin " + far + " below", x, 0, far <= 4 ? -far : 0, 0, far <= 4 ? 0 : 1000000);
            SlotCoins y = new SlotCoins();
            Check.plain(y, 5, 60 + far);
            y.flow(0, 1);
            y.set(3, 1);
            Check.tell(y, "gate weight 50 60 yes take 0 no back;");
            best("a coin " + far + " above", y, 0, 0, far <= 4 ? far : 0, far <= 4 ? 0 : 1000000);
            SlotCoins z = new SlotCoins();
            Check.plain(z, 5, 49 + far);
            z.flow(0, 1);
            z.set(3, 1);
            Check.tell(z, "gate weight 50 70 yes back no take 0;");
            best("out of it by " + far, z, 0, far <= 4 ? far : 0, 0, far <= 4 ? 0 : 1000000);
            SlotCoins v = new SlotCoins();
            Check.plain(v, 5, 61 - far);
            v.flow(0, 1);
            v.set(3, 1);
            Check.tell(v, "gate weight 40 60 yes back no take 0;");
            best("out of its end by " + far, v, 0, 0, far <= 4 ? -far : 0, far <= 4 ? 0 : 1000000);
        }
    }

    /** SORTS 0 and on, a COIN each of these weights, each of the same FLOW. */
    private static SlotCoins weights(int... weights) {
        SlotCoins x = new SlotCoins();
        for (int w : weights) {
            x.flow(Check.plain(x, 5, w), 1);
        }
        x.set(3, 1);
        return x;
    }

    /** Promise 17: "of like ones that of the least d and e without signs together" */
    private static void nearestOfLikeOnes() {
        SlotCoins x = weights(80);
        Check.tell(x, "gate weight 50 60 yes take 0 no back;");
        best("all are alike", x, 0, 0, 0, 1000000);
        best("d of -2 or 1", twoWays("50 60", 48, 50), 0, 1, 0, 1000000);
        best("d of -1 or 2", twoWays("50 60", 49, 51), 0, -1, 0, 1000000);
        best("d of -4 or 3", twoWays("50 60", 46, 52), 0, 3, 0, 1000000);
        best("e of -2 or 1", twoWays("50 60", 61, 59), 0, 0, 1, 1000000);
        best("e of -1 or 2", twoWays("50 60", 62, 60), 0, 0, -1, 1000000);
        best("e of -4 or 3", twoWays("50 60", 63, 57), 0, 0, 3, 1000000);
        SlotCoins v = weights(46, 51);
        Check.tell(v, "gate weight 50 60 yes take 0 no back;");
        best("a coin more by 4", v, 0, -4, 0, 0);
        SlotCoins w = weights(47, 51);
        Check.tell(w, "gate weight 50 99 yes take 0 no back;");
        best("-3 and not -4", w, 0, -3, 0, 0);
        Check.tell(w, "gate weight 0 48 yes take 0 no back;");
        best("3 and not 4", w, 0, 0, 3, 0);
    }

    /** Promise 17: "then the least d, then the least e." */
    private static void leastOfLikeOnes() {
        SlotCoins y = weights(50);
        Check.tell(y, "gate weight 50 50 yes back no take 0;");
        best("0 and -1 ahead of 1 and 0", y, 0, 0, -1, 0);
        Check.tell(y, "gate weight 49 51 yes back no take 0;");
        best("0 and -2 ahead of 2 and 0", y, 0, 0, -2, 0);
        SlotCoins z = weights(50, 51, 52);
        Check.tell(z, "gate weight 50 52 yes back no take 0;");
        best("0 and -3 ahead of 1 and -2, 2 and -1, 3 and 0", z, 0, 0, -3, 0);
        best("d of -1 or 1", twoWays("50 60", 49, 50), 0, -1, 0, 1000000);
        best("e of -1 or 1", twoWays("50 60", 61, 60), 0, 0, -1, 1000000);
        best("d of -2 or 2", twoWays("50 60", 48, 51), 0, -2, 0, 1000000);
        best("e of -2 or 2", twoWays("50 60", 62, 59), 0, 0, -2, 1000000);
        SlotCoins both = new SlotCoins();
        slugOrCoin(both, 49, 50);
        slugOrCoin(both, 61, 60);
        Check.tell(both, "gate weight 50 60 yes take 0 no back;");
        best("d and e of -1 or 1", both, 0, -1, -1, 2000000);
    }

    /** A COIN that is refused unless it is from one N to the other, and a slug that is taken as 0 if it is so. */
    private static void slugOrCoin(SlotCoins x, int coin, int slug) {
        x.set(3, 1);
        x.flow(Check.plain(x, 1, coin), 1);
        x.flow(Check.plain(x, 0, slug), 1);
    }

    /** Either the COIN comes in or the slug goes out, not both: each way loses 1 less. */
    private static SlotCoins twoWays(String bounds, int coin, int slug) {
        SlotCoins x = new SlotCoins();
        slugOrCoin(x, coin, slug);
        Check.tell(x, "gate weight " + bounds + " yes take 0 no back;");
        return x;
    }

    /** Promise 18: "A GATE is MOVED by d and e from now on" */
    private static void movedFromNowOn() {
        SlotCoins x = twoGates();
        Check.due("moved", x.move(1, -3, 4), true);
        Check.due("first N", x.gate(1, 1), 57);
        Check.due("second N", x.gate(1, 2), 73);
        Check.due("the other one's", x.gate(0, 1), 40);
        Check.due("the other one's", x.gate(0, 2), 49);
        Check.due("56", x.taken(56, 0, 0), -1);
        Check.due("57", x.taken(57, 0, 0), 0);
        Check.due("73", x.taken(73, 0, 0), 0);
        Check.due("74", x.taken(74, 0, 0), -1);
        Check.due("kept at 0", x.move(0, -99, 0), true);
        Check.due("0", x.gate(0, 1), 0);
        Check.due("kept at 99", x.move(0, 0, 99), true);
        Check.due("99", x.gate(0, 2), 99);
        Check.due("by 99 exactly", x.move(0, 99, 0), true);
        Check.due("99", x.gate(0, 1), 99);
        Check.due("by -99 exactly", x.move(0, -99, -99), true);
        Check.due("0", x.gate(0, 1), 0);
        Check.due("0", x.gate(0, 2), 0);
        Check.due("not at all", x.move(0, 0, 0), true);
    }

    /** Promise 18: "whether its first N isn't above the second one then (if it is, nothing is moved)." */
    private static void notMoved() {
        SlotCoins x = twoGates();
        Check.due("to one number", x.move(0, 5, -4), true);
        Check.due("45", x.gate(0, 1), 45);
        Check.due("45", x.gate(0, 2), 45);
        int[][] over = {{1, 0}, {0, -1}, {1, -1}, {99, 0}, {0, -99}, {99, -99}, {3, 2}, {-2, -3}};
        for (int[] by : over) {
            Check.due("by " + by[0] + " " + by[1], x.move(0, by[0], by[1]), false);
            Check.due("first as it was", x.gate(0, 1), 45);
            Check.due("second as it was", x.gate(0, 2), 45);
        }
        Check.due("both kept at 99", x.move(0, 99, 54), true);
        Check.due("99", x.gate(0, 1), 99);
        Check.due("first kept at 99", x.move(0, 1, 0), true);
        Check.due("not below it", x.move(0, 0, -1), false);
        Check.due("both to 0", x.move(0, -99, -99), true);
        Check.due("second kept at 0", x.move(0, 0, -1), true);
        Check.due("not above it", x.move(0, 1, 0), false);
        Edges.changesNothing("a move over the other N", EdgesOfGatesTest::twoGates, y -> y.move(0, 10, 0));
        Edges.changes("a move up to the other N", EdgesOfGatesTest::twoGates, y -> y.move(0, 9, 0));
    }

    /** Promise 18: "IllegalArgumentException: as for loss()." */
    private static void moveRefused() {
        SlotCoins x = twoGates();
        Edges.badBut("move d", -99, 99, d -> x.move(0, d, 99));
        Edges.badBut("move e", -99, 99, e -> x.move(0, 0, e));
        Check.bad("both", () -> x.move(1, 100, 100));
        Check.due("nothing is moved", x.gate(0, 1) + x.gate(0, 2), 89);
    }
}
