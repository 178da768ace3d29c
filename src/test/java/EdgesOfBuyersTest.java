/** Boundary cases of the promises 35 to 39, and of the Terms that they use: a test for each sentence. */
public final class EdgesOfBuyersTest {
    public static void main(String[] args) {
        buyersAsTheyCome();
        behindNone();
        sixthBuyer();
        noSuchGoodOrSort();
        chanceRefused();
        allMustBeGood();
        takenAsTheyAre();
        slideAside();
        noRoomIsGone();
        coinsThatComeIn();
        changeAheadOfCoins();
        chancesMultiplied();
        oneSeesWhoComes();
        withoutBuyers();
        mostRefused();
        atLeastAsGood();
        cantBeServed();
        noSuchBuyer();
        serveRefused();
        machinesAsTheyCome();
        fifthMachine();
        machineRefused();
        filledThenDry();
        filledIsFull();
        firstRow();
        firstOfAllRows();
        askedAnew();
        anotherDay();
        withoutMachines();
        daysRefused();
        lookingChangesNothing();
        Check.end();
    }

    /** SORTS of the values 10, 20, 5, and a good of each price. */
    private static SlotCoins shop() {
        SlotCoins x = new SlotCoins();
        x.sort(10, 0, 5);
        x.sort(20, 0, 9);
        x.sort(5, 0, 9);
        x.offer(10);
        x.offer(25);
        return x;
    }

    private static SlotCoins five() {
        SlotCoins x = shop();
        for (int b = 0; b < 5; b++) {
            x.buyer(0, 0, -1, -1, -1, 1 + b);
        }
        return x;
    }

    /** Promise 35: "A BUYER more (b, c, d: SORTS, or NONE for no further one" */
    private static void buyersAsTheyCome() {
        SlotCoins x = shop();
        Check.due("one coin", x.buyer(0, 1, -1, -1, -1, 1), 0);
        Check.due("two", x.buyer(0, 2, 2, -1, -1, 1), 1);
        Check.due("three", x.buyer(1, 0, 0, 2, -1, 1), 2);
        Check.due("four", x.buyer(1, 2, 2, 0, 2, 1), 3);
        Check.due("five buyers", x.buyer(0, 0, -1, -1, -1, 9), 4);
        Check.due("there are five", x.count(4), 5);
        int[] due = {-1, 1, 1, 1, 1};
        for (int b = 0; b < 5; b++) {
            Check.due("served " + b, x.serve(1, b), due[b]);
        }
        Check.due("all but the first", x.most(1), 1 + 1 + 1 + 9);
        x.price(1, 26);
        Check.due("no coin more than four", x.serve(1, 3), -1);
        x.price(1, 24);
        Check.due("no coin less", x.serve(1, 3), -1);
        SlotCoins y = shop();
        for (int b = 0; b < 5; b++) {
            Check.due("four coins each", y.buyer(1, 2, 2, 0, 2, 1), b);
        }
        for (int b = 0; b < 5; b++) {
            Check.due("served " + b, y.serve(3, b), 1);
        }
        Check.due("all", y.most(3), 3 * 125);
    }

    /** Promise 35: "what is told behind a NONE isn't asked)" */
    private static void behindNone() {
        int[] any = {-1, 0, 2, 3, 8, 99, Integer.MAX_VALUE, Integer.MIN_VALUE};
        for (int v : any) {
            SlotCoins x = shop();
            x.offer(20);
            Check.due("behind b", x.buyer(0, 0, -1, v, v, 1), 0);
            Check.due("behind c", x.buyer(2, 0, 0, -1, v, 1), 1);
            Check.due("one coin alone", x.serve(1, 0), 1);
            Check.due("two coins alone", x.serve(1, 1), 1);
            x.price(2, 21);
            Check.due("the third doesn't count", x.serve(1, 1), -1);
        }
    }

    /** Promise 35: "NONE if there are 5." */
    private static void sixthBuyer() {
        SlotCoins x = five();
        Check.due("a sixth", x.buyer(0, 1, -1, -1, -1, 9), -1);
        Check.due("a seventh", x.buyer(1, 1, 1, 1, 1, 9), -1);
        Check.due("still five", x.count(4), 5);
        Check.due("the chances of five", x.most(1), 15);
        Edges.changesNothing("a sixth buyer", EdgesOfBuyersTest::five, y -> y.buyer(1, 1, 1, 1, 1, 9));
    }

    /** Promise 35: "NoSuchElementException: no such GOOD, SORT" */
    private static void noSuchGoodOrSort() {
        SlotCoins x = shop();
        Edges.noneBut("good", 2, g -> x.buyer(g, 0, 0, 0, 0, 1));
        Edges.noneBut("a", 3, k -> x.buyer(0, k, 0, 0, 0, 1));
        SlotCoins y = shop();
        for (int k : Edges.NOWHERE) {
            if (k != -1) {
                Check.none("b " + k, () -> y.buyer(0, 0, k, 0, 0, 1));
                Check.none("c " + k, () -> y.buyer(0, 0, 0, k, 0, 1));
                Check.none("d " + k, () -> y.buyer(0, 0, 0, 0, k, 1));
            }
        }
        Check.none("b 3", () -> y.buyer(0, 0, 3, -1, -1, 1));
        Check.none("c 3", () -> y.buyer(0, 0, 0, 3, -1, 1));
        Check.none("d 3", () -> y.buyer(0, 0, 0, 0, 3, 1));
        Check.due("none of them is there", x.count(4) + y.count(4), 0);
        SlotCoins z = five();
        Check.none("a sixth without such a good", () -> z.buyer(2, 0, -1, -1, -1, 1));
        Check.none("a sixth without such a sort", () -> z.buyer(0, 3, -1, -1, -1, 1));
    }

    /** Promise 35: "IllegalArgumentException: the chance." and "a chance (1 to 9)" */
    private static void chanceRefused() {
        SlotCoins x = shop();
        Edges.badBut("chance", 1, 9, c -> x.buyer(0, 0, -1, -1, -1, c));
        Check.due("none of them is there", x.count(4), 0);
        Check.due("1 is one", x.buyer(0, 0, -1, -1, -1, 1), 0);
        Check.due("9 is one", x.buyer(0, 0, -1, -1, -1, 9), 1);
        Check.due("both", x.most(1), 10);
        SlotCoins y = five();
        Edges.badBut("a sixth one's chance", 1, 9, c -> y.buyer(0, 0, -1, -1, -1, c));
    }

    /** Promise 36: "1 to 4 SORTS that are put in (right coins, TAKEN AS they are; all must be GOOD)" */
    private static void allMustBeGood() {
        SlotCoins x = new SlotCoins();
        x.sort(10, 0, 9);
        x.sort(10, 3, 5);
        x.sort(0, 0, 999);
        x.offer(10);
        x.price(0, 40);
        x.offer(30);
        x.buyer(0, 0, 0, 0, 1, 1);
        x.buyer(0, 1, 0, 0, 0, 2);
        x.buyer(1, 0, 0, 0, 2, 4);
        x.buyer(1, 0, 0, 0, -1, 8);
        int[] days = {2, 3, 5, 6};
        for (int i = 0; i < 4; i++) {
            x.set(0, days[i]);
            Check.due("on day " + days[i], x.most(1), i == 1 || i == 2 ? 11 : 8);
        }
        Check.due("a slug, though the others pay", x.serve(1, 2), -1);
        x.price(0, 30);
        Check.due("one that isn't good, though the others pay", x.serve(1, 0), -1);
        x.price(0, 1);
        Check.due("all the more", x.serve(1, 1), -1);
    }

    /** Promise 36: "(right coins, TAKEN AS they are" */
    private static void takenAsTheyAre() {
        SlotCoins x = shop();
        x.buyer(0, 0, -1, -1, -1, 1);
        Check.due("without gates", x.serve(1, 0), 1);
        Check.tell(x, "gate weight 0 99 yes take 2 no take 2;");
        Check.due("whatever the gates say", x.serve(1, 0), 1);
        Check.tell(x, Edges.SHUT);
        Check.due("even if all are refused", x.most(1), 1);
    }

    /** Promise 36: "SERVED: a SALE as above, by numbers of coins in TUBES alone (THE SLIDE aside" */
    private static void slideAside() {
        SlotCoins x = shop();
        Check.tell(x, "gate weight 0 99 yes take 2 no back;");
        x.buyer(0, 1, -1, -1, -1, 1);
        x.buyer(1, 1, -1, -1, -1, 1);
        for (int i = 0; i < 12; i++) {
            x.put(2, 0, 0, 0, 0);
        }
        Check.due("its coins are no change", x.serve(1, 0), -1);
        Check.due("its credit is no one's", x.serve(1, 1), -1);
        Check.due("none", x.most(3), 0);
        x.load(0, 2, 1);
        Check.due("a five in the tube of tens is a ten", x.serve(1, 0), 1);
        x.empty(0);
        Check.due("the bag gives none", x.serve(1, 0), -1);
    }

    /** Promise 36: "what finds no room is gone)" */
    private static void noRoomIsGone() {
        SlotCoins x = shop();
        x.price(1, 200);
        x.load(0, 0, 20);
        x.buyer(0, 0, -1, -1, -1, 1);
        x.buyer(1, 1, 1, 1, 1, 1);
        Check.due("a ten that finds no room", x.serve(1, 0), 1);
        Check.due("each of three", x.most(3), 3 * 4);
        SlotCoins y = new SlotCoins();
        y.sort(1, 0, 9);
        y.sort(23, 0, 9);
        y.offer(4);
        y.offer(1);
        y.load(0, 0, 19);
        y.buyer(0, 0, 0, 0, 0, 1);
        y.buyer(1, 1, -1, -1, -1, 8);
        // Of four ones behind 19 but one finds room, so that there is never change of 22.
        Check.due("ones always, the others never", y.most(1), 1);
        Check.due("two", y.most(2), 1 * (9 + 1) + 8 * 1);
        y.price(1, 3);
        Check.due("one brings just the change of 20", y.most(2), 1 * (9 + 9) + 8 * 1);
        roomForSome();
    }

    /** Four fives come where there is room for some: the next one wants 19 or 20 of them as change. */
    private static void roomForSome() {
        for (int has = 14; has <= 20; has++) {
            for (int wanted = 18; wanted <= 21; wanted++) {
                SlotCoins x = new SlotCoins();
                x.sort(5, 0, 9);
                x.sort(200, 0, 9);
                x.load(0, 0, has);
                x.offer(20);
                x.offer(200 - 5 * wanted);
                x.buyer(0, 0, 0, 0, 0, 1);
                x.buyer(1, 1, -1, -1, -1, 9);
                int due = wanted <= Math.min(20, has + 4) ? 1 : -1;
                int now = wanted <= has ? 1 : -1;
                Check.due(has + " there, " + wanted + " wanted", x.serve(1, 1), now);
                long one = 1 + (now == 1 ? 9 : 0);
                long then = 1 + (due == 1 ? 9 : 0);
                long behind = 1 + (now == 1 && has - wanted >= wanted ? 9 : 0);
                Check.due(has + " there, " + wanted + " wanted behind four", x.most(2),
                    Math.max(10 + then, one) + 9 * (now == 1 ? Math.max(10 + behind, one) : one));
            }
        }
    }

    /** Promise 36: "a GOOD, 1 to 4 SORTS that are put in" */
    private static void coinsThatComeIn() {
        for (int brought = 1; brought <= 4; brought++) {
            for (int wanted = 1; wanted <= 4; wanted++) {
                for (int ahead = 0; ahead <= 3; ahead++) {
                    // Two who bring, one who brings and one of two who want; all others can't be served.
                    int due = 6 + 2 * ahead + (wanted <= brought ? 2 : 0);
                    Check.due(brought + " come, " + wanted + " are wanted, " + ahead + " ahead", bringers(brought, wanted, ahead).most(2), due);
                }
            }
        }
        SlotCoins x = new SlotCoins();
        x.sort(5, 0, 9);
        x.sort(20, 0, 9);
        x.sort(1, 0, 9);
        x.offer(31);
        x.offer(15);
        x.offer(19);
        x.buyer(0, 0, 1, 2, 0, 1);
        x.buyer(1, 1, -1, -1, -1, 1);
        x.buyer(2, 1, -1, -1, -1, 1);
        Check.due("one", x.most(1), 1);
        Check.due("two", x.most(2), 3 * 2 + 1 + 1);
        // The first one brings two fives and a one, so that of three only one that wants a second one isn't served.
        Check.due("three", x.most(3), 8 * 3 + 2 + 2 * 8);
    }

    /** A buyer that brings so many fives, one that wants so many as change, and ahead of them some that can't be served. */
    private static SlotCoins bringers(int brought, int wanted, int ahead) {
        SlotCoins x = new SlotCoins();
        for (int k = 0; k < ahead; k++) {
            x.sort(0, 0, 9);
        }
        int five = x.sort(5, 0, 9);
        int note = x.sort(25, 0, 9);
        x.offer(5 * brought);
        x.offer(25 - 5 * wanted);
        x.offer(500);
        for (int b = 0; b < ahead; b++) {
            x.buyer(2, note, note, note, note, 1);
        }
        x.buyer(0, five, brought > 1 ? five : -1, brought > 2 ? five : -1, brought > 3 ? five : -1, 1);
        x.buyer(1, note, -1, -1, -1, 2);
        return x;
    }

    /** Promise 36: "SERVED: a SALE as above" */
    private static void changeAheadOfCoins() {
        SlotCoins x = new SlotCoins();
        x.sort(5, 0, 9);
        x.sort(1, 0, 9);
        x.offer(6);
        x.offer(4);
        x.buyer(0, 0, 0, -1, -1, 1);
        x.buyer(1, 0, 1, -1, -1, 1);
        Check.due("ones would be missing", x.serve(1, 0), -1);
        Check.due("its own coins are no change", x.serve(1, 1), -1);
        x.load(1, 1, 20);
        Check.due("four ones", x.serve(1, 0), 1);
        // The one comes into a full tube, from which two were taken before.
        Check.due("two ones, one back", x.serve(1, 1), 1);
        x.buyer(1, 0, 1, 1, 1, 1);
        // 4 ones go, 3 come: 20, 16, 12 and so on are always enough.
        Check.due("all three", x.most(3), 3 * 27);
        SlotCoins y = new SlotCoins();
        y.sort(10, 0, 9);
        y.sort(5, 0, 9);
        y.offer(15);
        y.buyer(0, 0, 0, -1, -1, 1);
        y.load(0, 0, 20);
        Check.due("no five", y.serve(1, 0), -1);
        y.load(1, 1, 2);
        Check.due("two fives: two of three", y.most(3), 2);
    }

    /** Promise 36: "MOST of n BUYERS" and "MOST: the greatest number of SALES in the mean, times all chances together multiplied with themselves n times." */
    private static void chancesMultiplied() {
        SlotCoins x = shop();
        for (int b = 0; b < 5; b++) {
            x.buyer(0, 0, -1, -1, -1, 9);
        }
        Check.due("one", x.most(1), 45);
        Check.due("two", x.most(2), 2 * 45 * 45);
        Check.due("three", x.most(3), 3 * 45 * 45 * 45);
        SlotCoins y = shop();
        y.buyer(0, 0, -1, -1, -1, 1);
        Check.due("one of 1", y.most(1), 1);
        Check.due("three of 1", y.most(3), 3);
        y.price(0, 500);
        Check.due("none", y.most(3), 0);
    }

    /** Promise 36: "Of n BUYERS (1 to 3) that come one behind the other, each by chance any, one sees who comes, and serves (if that can be) or not" */
    private static void oneSeesWhoComes() {
        SlotCoins x = new SlotCoins();
        x.sort(5, 0, 9);
        x.sort(20, 0, 9);
        x.load(0, 0, 2);
        x.offer(10);
        x.offer(15);
        x.buyer(0, 1, -1, -1, -1, 1);
        x.buyer(1, 1, -1, -1, -1, 3);
        // Two fives: the first buyer needs both, the second one of them.
        Check.due("one", x.most(1), 4);
        // First, first: 1. First, second: 1. Second, first: 1. Second, second: 2.
        Check.due("two", x.most(2), 1 + 3 + 3 + 9 * 2);
        // Of three, with the first buyer ahead: to serve gives 1, not to serve 1 and more.
        Check.due("three", x.most(3), 1 * (1 + 3 + 3 + 9 * 2) + 3 * (16 + 16 - 1));
    }

    /** Promise 36: "0 without BUYERS." */
    private static void withoutBuyers() {
        SlotCoins x = new SlotCoins();
        SlotCoins y = shop();
        y.load(0, 0, 20);
        for (int n = 1; n <= 3; n++) {
            Check.due("a new object", x.most(n), 0);
            Check.due("a machine with change", y.most(n), 0);
        }
    }

    /** Promise 36: "IllegalArgumentException: n." */
    private static void mostRefused() {
        SlotCoins x = new SlotCoins();
        Edges.badBut("most without buyers", 1, 3, n -> x.most(n));
        SlotCoins y = five();
        Edges.badBut("most", 1, 3, n -> y.most(n));
    }

    /** Promise 37: "is to be SERVED (1: that is at least as good as not), or not (0)" */
    private static void atLeastAsGood() {
        // Four fives: the first buyer needs all of them, the second but one.
        SlotCoins x = new SlotCoins();
        x.sort(5, 0, 9);
        x.sort(20, 0, 9);
        x.sort(30, 0, 9);
        x.load(0, 0, 4);
        x.offer(10);
        x.offer(25);
        x.buyer(0, 2, -1, -1, -1, 1);
        x.buyer(1, 2, -1, -1, -1, 9);
        Check.due("the last one: better than not", x.serve(1, 0), 1);
        // With one to come: 1 + 0 against 9 of 10 or, by the first one, 1 of 10 more.
        Check.due("one to come: as good", x.serve(2, 0), 1);
        Check.due("two to come: not", x.serve(3, 0), 0);
        for (int n = 1; n <= 3; n++) {
            Check.due("the second always", x.serve(n, 1), 1);
        }
        x.load(0, 0, 4);
        Check.due("with eight fives", x.serve(3, 0), 1);
    }

    /** Promise 37: "NONE: it can't be." */
    private static void cantBeServed() {
        SlotCoins x = shop();
        x.buyer(1, 1, -1, -1, -1, 1);
        x.buyer(0, 1, -1, -1, -1, 1);
        x.buyer(0, 0, -1, -1, -1, 1);
        for (int n = 1; n <= 3; n++) {
            Check.due("20 of 25", x.serve(n, 0), -1);
            Check.due("no change of 10, whoever came before", x.serve(n, 1), -1);
            Check.due("just so", x.serve(n, 2), 1);
        }
        x.load(0, 0, 1);
        Check.due("change of 10", x.serve(1, 1), 1);
        x.set(0, 6);
        Check.due("tens aren't good", x.serve(1, 1), -1);
        Check.due("nor to pay with", x.serve(1, 2), -1);
        x.price(0, 20);
        Check.due("the price itself", x.serve(1, 1), 1);
        x.price(0, 21);
        Check.due("1 more", x.serve(1, 1), -1);
        x.price(0, 19);
        Check.due("1 less", x.serve(1, 1), -1);
    }

    /** Promise 37: "NoSuchElementException: no such BUYER." */
    private static void noSuchBuyer() {
        SlotCoins x = shop();
        for (int many = 0; many <= 5; many++) {
            Edges.noneBut("serve of " + many + ":", many, b -> x.serve(1, b));
            x.buyer(0, 0, -1, -1, -1, 1);
        }
        Edges.noneBut("serve, and n out of all bounds,", 5, b -> x.serve(100, b));
    }

    /** Promise 37: "Whether the first of n BUYERS" */
    private static void serveRefused() {
        SlotCoins x = five();
        Edges.badBut("n", 1, 3, n -> x.serve(n, 0));
        Edges.badBut("n", 1, 3, n -> x.serve(n, 4));
        x.price(0, 500);
        Edges.badBut("n of one who can't be served", 1, 3, n -> x.serve(n, 0));
    }

    /** Promise 38: "A MACHINE more: its number" and "ROUNDS: MACHINES, at most 4, numbered as they come, each with LEFT (0 to 5) and FULL (1 to 5)." */
    private static void machinesAsTheyCome() {
        SlotCoins x = new SlotCoins();
        for (int m = 0; m < 4; m++) {
            Check.due("machine " + m, x.machine(m, 5 - m), m);
            Check.due("machines", x.count(5), m + 1);
        }
    }

    private static SlotCoins fourMachines() {
        SlotCoins x = new SlotCoins();
        for (int m = 0; m < 4; m++) {
            x.machine(0, 1 + m);
        }
        return x;
    }

    /** Promise 38: "NONE if there are 4." */
    private static void fifthMachine() {
        SlotCoins x = fourMachines();
        int dry = x.rounds(8, -1);
        Check.due("a fifth", x.machine(5, 5), -1);
        Check.due("a sixth", x.machine(0, 1), -1);
        Check.due("still four", x.count(5), 4);
        Check.due("as dry as before", x.rounds(8, -1), dry);
        Edges.changesNothing("a fifth machine", EdgesOfBuyersTest::fourMachines, y -> y.machine(5, 5));
    }

    /** Promise 38: "IllegalArgumentException: LEFT, FULL." */
    private static void machineRefused() {
        SlotCoins x = new SlotCoins();
        Edges.badBut("left", 0, 5, v -> x.machine(v, 3));
        Edges.badBut("full", 1, 5, v -> x.machine(3, v));
        Check.bad("both", () -> x.machine(6, 0));
        Check.due("none is there", x.count(5), 0);
        Check.due("0 and 1", x.machine(0, 1), 0);
        Check.due("5 and 5", x.machine(5, 5), 1);
        Check.due("5 and 1", x.machine(5, 1), 2);
        Check.due("0 and 5", x.machine(0, 5), 3);
        SlotCoins y = fourMachines();
        Edges.badBut("a fifth one's left", 0, 5, v -> y.machine(v, 3));
        Edges.badBut("a fifth one's full", 1, 5, v -> y.machine(3, v));
    }

    /** Promise 39: "then each MACHINE whose LEFT is 0 is DRY that day, LEFT of the others falls by 1." */
    private static void filledThenDry() {
        SlotCoins x = new SlotCoins();
        x.machine(0, 1);
        x.machine(0, 1);
        for (int h = 1; h <= 8; h++) {
            Check.due("one of two each day: " + h, x.rounds(h, -1), h);
        }
        x.machine(0, 1);
        x.machine(0, 1);
        for (int h = 1; h <= 8; h++) {
            Check.due("three of four each day: " + h, x.rounds(h, -1), 3 * h);
        }
        for (int left = 0; left <= 5; left++) {
            SlotCoins y = new SlotCoins();
            y.machine(left, 5);
            y.machine(0, 1);
            // The second one must be filled each day; the first one can't be, and lasts as many days as it has left.
            for (int h = 1; h <= 8; h++) {
                int due = Math.max(0, h - left);
                Check.due(left + " left, " + h + " days", y.rounds(h, -1), Math.min(due, fillOnce(h, left)));
            }
        }
    }

    /** The fewest, if the first MACHINE (FULL is 5) is filled k times in place of the second one. */
    private static int fillOnce(int h, int left) {
        int fewest = Integer.MAX_VALUE;
        for (int set = 0; set < 1 << h; set++) {
            int first = left;
            int second = 0;
            int dry = 0;
            for (int day = 0; day < h; day++) {
                if ((set >> day & 1) == 1) {
                    first = 5;
                } else {
                    second = 1;
                }
                dry += (first == 0 ? 1 : 0) + (second == 0 ? 1 : 0);
                first = Math.max(0, first - 1);
                second = Math.max(0, second - 1);
            }
            fewest = Math.min(fewest, dry);
        }
        return fewest;
    }

    /** Promise 39: "Each of h DAYS (1 to 8) one of them is filled (its LEFT is FULL)" */
    private static void filledIsFull() {
        SlotCoins x = new SlotCoins();
        x.machine(5, 1);
        for (int h = 1; h <= 8; h++) {
            Check.due("one alone is filled each day: " + h, x.rounds(h, -1), 0);
            Check.due("the last day", x.rounds(h, h - 1), 0);
        }
        x.machine(5, 1);
        // The first one that is filled has but 1 from then on, so the other has to last.
        Check.due("five days", x.rounds(5, -1), 0);
        Check.due("six days", x.rounds(6, -1), 1);
        Check.due("seven days", x.rounds(7, -1), 2);
        SlotCoins y = new SlotCoins();
        y.machine(0, 5);
        y.machine(0, 5);
        Check.due("one day: the other is dry", y.rounds(1, -1), 1);
        Check.due("all the others are full enough", y.rounds(8, -1), 1);
    }

    /** Promise 39: "LEAST DRY of h DAYS (day NONE), or which MACHINE is filled on a day of the first row (0 to h less 1)" and "LEAST DRY: the fewest DRY MACHINES, all DAYS together; the first row of those that are filled, by which that is so." */
    private static void firstRow() {
        SlotCoins x = new SlotCoins();
        for (int m = 0; m < 4; m++) {
            x.machine(5, 5);
        }
        row(x, 5, 0, "00000");
        row(x, 1, 0, "0");
        SlotCoins y = new SlotCoins();
        y.machine(1, 1);
        y.machine(0, 2);
        y.machine(3, 5);
        row(y, 1, 0, "1");
        row(y, 2, 0, "10");
        row(y, 3, 1, "100");
        row(y, 4, 2, "1010");
        SlotCoins z = new SlotCoins();
        z.machine(2, 1);
        z.machine(2, 5);
        row(z, 2, 0, "00");
        row(z, 3, 0, "100");
    }

    /** Promise 39: "the first row of those that are filled, by which that is so." */
    private static void firstOfAllRows() {
        int[][] lefts = {{0}, {5}, {1, 1}, {0, 2}, {3, 0}, {1, 0, 2}, {5, 5, 5}, {0, 0, 0}, {2, 1, 0, 3}, {1, 1, 1, 1}, {0, 5, 0, 5}};
        int[][] fulls = {{1}, {1}, {2, 1}, {1, 5}, {3, 3}, {3, 3, 3}, {1, 1, 5}, {1, 2, 3}, {4, 1, 2, 3}, {2, 2, 2, 2}, {5, 1, 1, 5}};
        for (int i = 0; i < lefts.length; i++) {
            SlotCoins x = new SlotCoins();
            for (int m = 0; m < lefts[i].length; m++) {
                x.machine(lefts[i][m], fulls[i][m]);
            }
            for (int h = 1; h <= (lefts[i].length > 3 ? 6 : 8); h++) {
                int[] best = bestRow(lefts[i], fulls[i], h);
                StringBuilder due = new StringBuilder();
                for (int day = 0; day < h; day++) {
                    due.append(best[day]);
                }
                row(x, h, best[h], due.toString());
            }
        }
    }

    /** All rows one by one, the first one of the fewest dry; how many these are stands behind it. */
    private static int[] bestRow(int[] left, int[] full, int h) {
        int[] row = new int[h];
        int[] best = new int[h + 1];
        best[h] = Integer.MAX_VALUE;
        boolean more = true;
        while (more) {
            int dry = dryBy(left.clone(), full, row);
            if (dry < best[h]) {
                System.arraycopy(row, 0, best, 0, h);
                best[h] = dry;
            }
            int at = h - 1;
            while (at >= 0 && row[at] == left.length - 1) {
                row[at] = 0;
                at--;
            }
            more = at >= 0;
            if (more) {
                row[at]++;
            }
        }
        return best;
    }

    private static int dryBy(int[] left, int[] full, int[] row) {
        int dry = 0;
        for (int filled : row) {
            left[filled] = full[filled];
            for (int m = 0; m < left.length; m++) {
                dry += left[m] == 0 ? 1 : 0;
                left[m] = Math.max(0, left[m] - 1);
            }
        }
        return dry;
    }

    /** Promise 39: "LEAST DRY of h DAYS (day NONE)" */
    private static void askedAnew() {
        SlotCoins x = new SlotCoins();
        x.machine(1, 2);
        x.image(0);
        x.machine(1, 5);
        Check.due("two", x.rounds(8, -1), 0);
        Check.due("one more", x.machine(0, 1), 2);
        Check.due("three", x.rounds(8, -1), bestRow(new int[] {1, 1, 0}, new int[] {2, 5, 1}, 8)[8]);
        x.restore(0);
        Check.due("one again", x.rounds(8, -1), 0);
        x.machine(1, 1);
        int[] row = bestRow(new int[] {1, 1}, new int[] {2, 1}, 8);
        for (int day = 0; day < 8; day++) {
            Check.due("another second one, day " + day, x.rounds(8, day), row[day]);
        }
        Check.due("another second one", x.rounds(8, -1), row[8]);
        x.restore(0);
        x.machine(1, 5);
        Check.due("the first two", x.rounds(8, -1), bestRow(new int[] {1, 1}, new int[] {2, 5}, 8)[8]);
    }

    private static void row(SlotCoins x, int h, int dry, String due) {
        Check.due("dry in " + h, x.rounds(h, -1), dry);
        StringBuilder got = new StringBuilder();
        for (int day = 0; day < h; day++) {
            got.append(x.rounds(h, day));
        }
        Check.due("row of " + h + " is " + got + ", due is " + due, got.toString().equals(due), true);
    }

    /** Promise 39: "or for another day." */
    private static void anotherDay() {
        SlotCoins x = new SlotCoins();
        x.machine(2, 3);
        for (int h = 1; h <= 8; h++) {
            for (int day : new int[] {h, h + 1, 8, 9, 100, -2, -3, Integer.MAX_VALUE, Integer.MIN_VALUE}) {
                Check.due("day " + day + " of " + h, x.rounds(h, day), -1);
            }
            Check.due("the first day", x.rounds(h, 0), 0);
            Check.due("the last day", x.rounds(h, h - 1), 0);
        }
    }

    /** Promise 39: "NONE without MACHINES" */
    private static void withoutMachines() {
        SlotCoins x = new SlotCoins();
        for (int h = 1; h <= 8; h++) {
            for (int day = -2; day <= h; day++) {
                Check.due("day " + day + " of " + h, x.rounds(h, day), -1);
            }
        }
    }

    /** Promise 39: "IllegalArgumentException: h." */
    private static void daysRefused() {
        SlotCoins x = new SlotCoins();
        Edges.badBut("without machines", 1, 8, h -> x.rounds(h, -1));
        x.machine(1, 1);
        Edges.badBut("least dry", 1, 8, h -> x.rounds(h, -1));
        Edges.badBut("a day", 1, 8, h -> x.rounds(h, 0));
        Edges.badBut("another day", 1, 8, h -> x.rounds(h, 100));
    }

    private static SlotCoins busy() {
        SlotCoins x = five();
        x.load(0, 0, 5);
        x.load(2, 2, 5);
        x.buyer(1, 1, 1, -1, -1, 5);
        x.machine(0, 2);
        x.machine(3, 2);
        return x;
    }

    /** Promise 37: "is to be SERVED" */
    private static void lookingChangesNothing() {
        Edges.changesNothing("most", EdgesOfBuyersTest::busy, x -> x.most(3));
        Edges.changesNothing("serve", EdgesOfBuyersTest::busy, x -> x.serve(3, 0));
        Edges.changesNothing("rounds", EdgesOfBuyersTest::busy, x -> x.rounds(8, 7));
    }
}
