/** Promises 35 to 39. */
public final class BuyersTest {
    public static void main(String[] args) {
        buyers();
        mosts();
        betterNot();
        fullTubes();
        machines();
        rounds();
        refilledTooEarly();
        Check.end();
    }

    private static void buyers() {
        SlotCoins x = new SlotCoins();
        Check.none("no good", () -> x.buyer(0, 0, -1, -1, -1, 0));
        x.offer(10);
        Check.none("no sort", () -> x.buyer(0, 0, -1, -1, -1, 0));
        x.sort(10, 0, 5);
        Check.none("a is none", () -> x.buyer(0, -1, 0, 0, 0, 1));
        Check.none("b", () -> x.buyer(0, 0, 1, 0, 0, 0));
        Check.none("c", () -> x.buyer(0, 0, 0, -2, 0, 1));
        Check.none("d", () -> x.buyer(0, 0, 0, 0, 8, 1));
        Check.bad("chance 0", () -> x.buyer(0, 0, -1, -1, -1, 0));
        Check.bad("chance 10", () -> x.buyer(0, 0, -1, -1, -1, 10));
        Check.due("none yet", x.count(4), 0);
        Check.due("behind a none", x.buyer(0, 0, -1, 99, -7, 9), 0);
        Check.due("behind b", x.buyer(0, 0, 0, -1, 99, 9), 1);
        for (int b = 2; b < 5; b++) {
            Check.due("buyer " + b, x.buyer(0, 0, 0, 0, 0, 1), b);
        }
        Check.due("a sixth", x.buyer(0, 0, 0, 0, 0, 1), -1);
        Check.bad("a wrong sixth", () -> x.buyer(0, 0, 0, 0, 0, 0));
        Check.due("five", x.count(4), 5);
    }

    private static void mosts() {
        SlotCoins x = new SlotCoins();
        Check.bad("n 0", () -> x.most(0));
        Check.bad("n 4", () -> x.most(4));
        Check.due("without buyers", x.most(3), 0);
        x.sort(10, 0, 5);
        x.sort(20, 0, 9);
        x.offer(10);
        x.buyer(0, 0, -1, -1, -1, 2);
        x.buyer(0, 1, -1, -1, -1, 3);
        Check.due("only the one with a 10", x.most(1), 2);
        Check.due("can't be", x.serve(1, 1), -1);
        Check.due("can be", x.serve(1, 0), 1);
        // Two: 10 and 10 (4 of 25): 2; 10 and 20 (6): 2; 20 and 10 (6): 1; 20 and 20 (9): 0.
        Check.due("two", x.most(2), 4 * 2 + 6 * 2 + 6);
        Check.none("no buyer", () -> x.serve(0, 2));
        Check.none("no buyer -1", () -> x.serve(1, -1));
        Check.bad("n", () -> x.serve(0, 0));
        Check.bad("n", () -> x.serve(4, 0));
        x.load(0, 0, 1);
        Check.due("both", x.most(1), 5);
        x.set(0, 6);
        Check.due("10s aren't good: neither change nor coin", x.most(1), 0);
        Check.due("can't be", x.serve(3, 0), -1);
        x.price(0, 20);
        Check.due("just so", x.most(3), 3 * 25 * 3);
        Check.due("nothing is changed by looking", x.tube(0, 0), 1);
    }

    /** One buyer would use up the only change that three others need. */
    private static void betterNot() {
        SlotCoins x = new SlotCoins();
        x.sort(5, 0, 9);
        x.sort(20, 0, 9);
        x.sort(30, 0, 9);
        x.load(0, 0, 4);
        x.offer(10);
        x.offer(25);
        x.offer(500);
        x.buyer(0, 2, -1, -1, -1, 1);
        x.buyer(1, 2, -1, -1, -1, 9);
        Check.due("last of all: yes", x.serve(1, 0), 1);
        Check.due("with two to come: no", x.serve(3, 0), 0);
        Check.due("with one to come: as good", x.serve(2, 0), 1);
        Check.due("the other", x.serve(3, 1), 1);
        x.buyer(2, 2, -1, -1, -1, 5);
        Check.due("a price that isn't paid", x.serve(1, 2), -1);
        Check.due("one of them", x.most(1), 10);
        x.load(0, 0, 16);
        Check.due("enough now: all but the last", x.most(3), 3 * 10 * 15 * 15);
        Check.due("so yes", x.serve(3, 0), 1);
    }

    /** What finds no room is gone, and change is taken ahead of the coins. */
    private static void fullTubes() {
        SlotCoins x = new SlotCoins();
        x.sort(1, 0, 9);
        x.sort(10, 0, 9);
        x.offer(1);
        x.buyer(0, 1, -1, -1, -1, 1);
        x.buyer(0, 0, 0, 0, 0, 1);
        x.load(0, 0, 18);
        Check.due("18 is 9 twice", x.serve(3, 0), 1);
        Check.due("one of either", x.most(1), 2);
        // By tens (T) and fours of ones (F), each 1 of 8: TTT and TTF 2 (18, 9, 0), all others 3 (FTT: 19, 10, 1).
        Check.due("three", x.most(3), 22);
        x.load(0, 0, 1);
        x.load(1, 1, 20);
        Check.due("tens have no room: served all the same", x.serve(1, 0), 1);
    }

    private static void machines() {
        SlotCoins x = new SlotCoins();
        Check.bad("left -1", () -> x.machine(-1, 1));
        Check.bad("left 6", () -> x.machine(6, 1));
        Check.bad("full 0", () -> x.machine(0, 0));
        Check.bad("full 6", () -> x.machine(0, 6));
        for (int m = 0; m < 4; m++) {
            Check.due("machine " + m, x.machine(m, 5), m);
        }
        Check.due("a fifth", x.machine(0, 1), -1);
        Check.bad("a wrong fifth", () -> x.machine(0, 0));
        Check.due("four", x.count(5), 4);
    }

    private static void rounds() {
        SlotCoins x = new SlotCoins();
        Check.bad("h 0", () -> x.rounds(0, 0));
        Check.bad("h 9", () -> x.rounds(9, -1));
        Check.due("no machines", x.rounds(8, -1), -1);
        x.machine(0, 1);
        Check.due("one, filled daily", x.rounds(8, -1), 0);
        Check.due("day 7", x.rounds(8, 7), 0);
        Check.due("day 8", x.rounds(8, 8), -1);
        Check.due("day -2", x.rounds(8, -2), -1);
        x.machine(0, 1);
        Check.due("one of two is dry each day", x.rounds(8, -1), 8);
        Check.due("the first row", x.rounds(8, 5), 0);
        x.machine(0, 1);
        x.machine(0, 1);
        Check.due("three of four", x.rounds(8, -1), 24);
        SlotCoins y = new SlotCoins();
        y.machine(1, 3);
        y.machine(0, 3);
        y.machine(2, 3);
        Check.due("none dry", y.rounds(8, -1), 0);
        int[] row = {1, 0, 2, 1, 0, 2, 0, 1};
        for (int d = 0; d < 3; d++) {
            Check.due("day " + d, y.rounds(8, d), row[d]);
        }
    }

    /** A MACHINE that is filled has FULL, even if it had more. */
    private static void refilledTooEarly() {
        SlotCoins x = new SlotCoins();
        x.machine(5, 1);
        Check.due("it must be filled: 1 each day", x.rounds(3, -1), 0);
        x.machine(5, 1);
        Check.due("two days", x.rounds(2, -1), 0);
        Check.due("first 0", x.rounds(6, 0), 0);
        Check.due("six days: the other has 5", x.rounds(6, -1), 1);
    }
}
