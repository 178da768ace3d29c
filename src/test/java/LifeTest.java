import java.lang.management.ManagementFactory;
import java.util.function.IntConsumer;

/**
 * What the document says ahead of its promises: "An object is used for at most 512 calls after it has been made".
 * The last of them answers as the first, also behind the dearest calls, those that throw, and beside other objects.
 */
public final class LifeTest {
    private static final int LIFE = 512;

    public static void main(String[] args) {
        dearestCalls();
        onlyThrows();
        onlyCoinsStuck();
        onlyTexts();
        onlyImages();
        onlyLoads();
        onlySales();
        sideBySide();
        callsMakeNothing();
        Check.end();
    }

    /** 8 SORTS of wide SPANS, 8 GATES, full TUBES, 5 BUYERS of 4 coins, 4 MACHINES; 74 calls. */
    private static SlotCoins widest() {
        SlotCoins x = new SlotCoins();
        for (int k = 0; k < 8; k++) {
            x.sort(1 + 13 * k, 0, 999);
            x.span(k, 0, 5 * k, 60 + 5 * k);
            x.span(k, 1, 0, 99);
            x.span(k, 2, 10, 89);
            x.flow(k, 1000 - k);
        }
        Check.tell(x, "gate weight 20 40 yes next no skip;gate width 10 80 yes take 0 no next;"
            + "gate ring 20 70 yes take 1 no next;gate width 5 95 yes next no take 2;gate weight 30 70 yes skip no take 3;"
            + "gate ring 30 31 yes take 4 no take 5;gate width 40 60 yes take 6 no next;gate ring 0 50 yes take 7 no back;");
        for (int k = 0; k < 8; k++) {
            x.load(k, 7 - k, 20);
        }
        x.offer(2);
        for (int b = 0; b < 5; b++) {
            x.buyer(0, b, b + 1, b + 2, b + 3, 5 + b);
        }
        for (int m = 0; m < 4; m++) {
            x.machine(m, 2 + m);
        }
        return x;
    }

    private static long dear(SlotCoins x, int which) {
        switch (which % 8) {
            case 0:
                return x.best(which % 5, 2);
            case 1:
                return x.explain(0);
            case 2:
                return x.serve(3, which % 5);
            case 3:
                return x.most(3);
            case 4:
                return x.rounds(8, 7);
            case 5:
                return x.lacks(0, 0);
            case 6:
                return x.made(1000);
            default:
                return x.loss(7, -1, 1);
        }
    }

    private static void dearestCalls() {
        SlotCoins x = widest();
        long[] first = new long[40];
        for (int i = 0; i < first.length; i++) {
            first[i] = dear(x, i);
        }
        for (int i = first.length; i < 430; i++) {
            Check.due("dear call " + i, dear(x, i), first[i % first.length]);
        }
        Check.due("the GATES stand as they stood", x.gate(7, 2), 50);
        Check.due("so do the TUBES", x.tube(7, 0), 20);
    }

    private static void onlyThrows() {
        SlotCoins x = new SlotCoins();
        for (int i = 0; i < LIFE - 1; i++) {
            int v = i;
            IntConsumer[] calls = {
                n -> x.good(n), n -> x.gate(n, 0), n -> x.price(n, 1), n -> x.serve(1, n), n -> x.write(0, n, 1),
                n -> x.restore(n % 3), n -> x.text(1 + n), n -> x.made(1001 + n), n -> x.sort(201 + n, 0, 0)};
            IntConsumer call = calls[i % calls.length];
            boolean thrown = false;
            try {
                call.accept(v);
            } catch (RuntimeException e) {
                thrown = true;
            }
            Check.due("call " + i + " throws", thrown, true);
        }
        Check.due("call 512", x.sort(10, 0, 999), 0);
    }

    private static void onlyCoinsStuck() {
        SlotCoins x = new SlotCoins();
        x.sort(10, 0, 999);
        for (int i = 1; i < LIFE - 1; i++) {
            Check.due("stuck " + i, x.put(0, 0, 0, 0, 3), 0);
        }
        Check.due("all are in the BAG", x.bag(0), LIFE - 2);
    }

    private static void onlyTexts() {
        SlotCoins x = new SlotCoins();
        for (int i = 0; i < LIFE / 2; i++) {
            // "ring", and sixteen blanks
            Check.due("feed " + i, x.feed(1919512167, 538976288, 538976288, 538976288, 538976288), 20);
            Check.due("text " + i, x.text(i % 2 == 0 ? 20 : 0), i % 2 == 0 ? -12 : 0);
        }
    }

    private static void onlyImages() {
        SlotCoins x = new SlotCoins();
        x.image(0);
        for (int i = 1; i + 3 < LIFE; i += 4) {
            Check.due("sort " + i, x.sort(i % 200, 0, 9), 0);
            x.image(1 + i / 4 % 2);
            x.restore(0);
            Check.due("restored " + i, x.count(0), 0);
        }
        x.restore(1);
        Check.due("the later image", x.count(0), 1);
    }

    private static void onlyLoads() {
        SlotCoins x = new SlotCoins();
        x.sort(10, 0, 999);
        int loads = 0;
        for (int i = 1; i + 3 < LIFE; i += 2) {
            Check.due("load " + i, x.load(0, 0, 20), 20);
            Check.due("empty " + i, x.empty(0), 20);
            loads += 20;
        }
        Check.due("DUE", x.wheel(0, 1), loads);
        Check.due("THERE", x.wheel(0, 2), loads);
    }

    /** Coins doubled and SALES without CHANGE: the TUBE fills, then the BAG; the WHEEL rises on and on. */
    private static void onlySales() {
        SlotCoins x = new SlotCoins();
        x.sort(10, 0, 999);
        Check.tell(x, "gate ring 0 0 yes take 0 no back;");
        x.offer(20);
        int sales = 0;
        for (int i = 5; i + 5 < LIFE; i += 2) {
            Check.due("doubled " + i, x.put(0, 0, 0, 0, 1), 0);
            Check.due("sale " + i, x.sale(0), 0);
            sales++;
        }
        Check.due("the TUBE", x.tube(0, 0), 20);
        Check.due("the BAG", x.bag(0), sales - 20);
        Check.due("the WHEEL", x.wheel(0, 0), 2 * sales);
        Check.due("ODD", x.wheel(0, 3), -sales);
    }

    private static void sideBySide() {
        SlotCoins x = widest();
        SlotCoins y = new SlotCoins();
        long best = x.best(0, 2);
        Check.due("another object has no SORTS", y.count(0), 0);
        Check.due("nor GATES", y.count(1), 0);
        y.sort(200, 0, 0);
        y.set(3, 999);
        Check.tell(y, "gate ring 0 0 yes take 0 no back;");
        Check.due("what is told to the other", y.passes(0, 0), 1);
        Check.due("bears on nothing here", x.best(0, 2), best);
        y.image(0);
        Check.refused("nor are its images kept here", IllegalStateException.class, () -> x.restore(0));
        y.tray(0, 0, 1);
        Check.refused("nor its TRAYS", IllegalStateException.class, () -> x.write(0, 0, 1));
    }

    private static long madeSoFar() {
        com.sun.management.ThreadMXBean thread = (com.sun.management.ThreadMXBean) ManagementFactory.getThreadMXBean();
        return thread.getThreadAllocatedBytes(Thread.currentThread().getId());
    }

    /** All calls of a run live in one room, so that an object makes its rows once, and a call makes none. */
    private static void callsMakeNothing() {
        madeSoFar();
        long before = madeSoFar();
        SlotCoins x = widest();
        long made = madeSoFar() - before;
        Check.due("an object takes less than 200,000 bytes: " + made, made < 200000, true);
        before = madeSoFar();
        long sum = 0;
        for (int i = 0; i < 190; i++) {
            sum += dear(x, i);
        }
        for (int i = 0; i < 30; i++) {
            x.image(i % 3);
            x.restore(i % 3);
            x.tray(i % 4, i % 4, 20);
            sum += x.pour(i % 4, 0) + x.refund() + x.sale(0);
            x.feed(i, i, i, i, i);
            sum += x.text(20);
        }
        made = madeSoFar() - before;
        Check.due("calls make less than a row: " + made + " bytes", made < 2000, true);
        Check.due("and answer", sum != 0, true);
    }
}
