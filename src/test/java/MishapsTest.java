/** Promises 32 to 34. */
public final class MishapsTest {
    public static void main(String[] args) {
        wheels();
        costs();
        explained();
        slugsThatCross();
        slugsFirst();
        Check.end();
    }

    private static void wheels() {
        SlotCoins x = new SlotCoins();
        Check.none("no sort", () -> x.wheel(0, 9));
        Check.plain(x, 10, 10);
        Check.plain(x, 5, 20);
        Check.tell(x, "gate weight 10 10 yes take 0 no back;");
        Check.bad("what 4", () -> x.wheel(0, 4));
        Check.bad("what -1", () -> x.wheel(0, -1));
        x.load(0, 1, 4);
        x.load(1, 0, 2);
        Check.due("due 0", x.wheel(0, 1), 4);
        Check.due("there 0", x.wheel(0, 2), 2);
        Check.due("odd 0", x.wheel(0, 3), -2);
        Check.due("odd 1", x.wheel(1, 3), 2);
        x.put(0, 10, 10, 10, 0);
        Check.due("the slide isn't there", x.wheel(0, 2), 2);
        Check.due("but the wheel rose", x.wheel(0, 3), -3);
        x.refund();
        x.empty(0);
        Check.due("the bag is", x.wheel(1, 2), 4);
    }

    private static void costs() {
        SlotCoins x = new SlotCoins();
        for (int k = 0; k < 4; k++) {
            int kind = k;
            Check.due("at first", x.cost(k, 999), 1);
            Check.due("then", x.cost(k, 0), 999);
            Check.bad("above", () -> x.cost(kind, 1000));
            Check.bad("below", () -> x.cost(kind, -1));
            Check.due("kept", x.cost(k, 0), 0);
        }
        Check.none("kind 4", () -> x.cost(4, -1));
        Check.none("kind -1", () -> x.cost(-1, 0));
    }

    /** SORT 0 lacks 5, SORT 1 (a slug that passes as 0) is 3 too many, SORT 2 (which doesn't) 4. */
    private static SlotCoins odd() {
        SlotCoins x = new SlotCoins();
        Check.plain(x, 10, 10);
        Check.plain(x, 0, 10);
        Check.plain(x, 7, 50);
        Check.tell(x, "gate weight 10 10 yes take 0 no back;");
        for (int i = 0; i < 5; i++) {
            x.put(0, 10, 10, 10, 2);
        }
        for (int i = 0; i < 3; i++) {
            x.put(1, 10, 10, 10, 3);
        }
        for (int i = 0; i < 4; i++) {
            x.put(2, 50, 10, 10, 3);
        }
        return x;
    }

    private static void explained() {
        SlotCoins x = odd();
        Check.bad("what 3", () -> x.explain(3));
        Check.bad("what -1", () -> x.explain(-1));
        Check.due("three slugs, four stuck, two missing", x.explain(0), 9);
        Check.due("fewest", x.explain(1), 3);
        Check.due("most", x.explain(2), 3);
        x.cost(3, 2);
        Check.due("12 either way", x.explain(0), 12);
        Check.due("none of them need be slugs", x.explain(1), 0);
        Check.due("three may", x.explain(2), 3);
        x.cost(3, 3);
        Check.due("dearer", x.explain(0), 12);
        Check.due("no slugs", x.explain(2), 0);
        x.cost(1, 9);
        Check.due("strings are cheap still", x.explain(0), 12);
        x.cost(2, 8);
        Check.due("slugs at 3 instead of 9", x.explain(0), 3 * 3 + 4 + 2 * 8);
        x.cost(0, 100);
        Check.due("stuck at 100", x.explain(0), 3 * 3 + 400 + 2 * 8);
        Check.tell(x, "");
        Check.due("nothing passes", x.explain(0), 700 + 5 * 8);
        Check.due("no slugs", x.explain(2), 0);
    }

    /** SORT 2 passes as 0 and 1, SORT 3 as 0 alone: the most slugs need SORT 2 to leave 0 to SORT 3. */
    private static void slugsThatCross() {
        SlotCoins x = new SlotCoins();
        Check.plain(x, 10, 10);
        Check.plain(x, 20, 20);
        Check.plain(x, 0, 10);
        x.span(2, 0, 10, 20);
        Check.plain(x, 0, 10);
        Check.tell(x, "gate weight 10 10 yes take 0 no next;gate weight 20 20 yes take 1 no back;");
        for (int i = 0; i < 2; i++) {
            x.put(0, 10, 10, 10, 2);
            x.put(1, 20, 10, 10, 2);
            x.put(2, 15, 10, 10, 3);
            x.put(3, 10, 10, 10, 3);
        }
        Check.due("four slugs", x.explain(2), 4);
        Check.due("at 1 each", x.explain(0), 4);
        x.put(3, 10, 10, 10, 3);
        x.put(2, 15, 10, 10, 3);
        Check.due("still four", x.explain(1), 4);
        Check.due("and two stuck", x.explain(0), 6);
        x.span(2, 0, 10, 19);
        Check.due("2 passes as 0 alone now", x.explain(1), 2);
        Check.due("two slugs, four stuck, two missing", x.explain(0), 8);
    }

    /** The slug is SORT 0, and there are fewer of it than of what lacks; then it passes as nothing. */
    private static void slugsFirst() {
        SlotCoins x = new SlotCoins();
        Check.plain(x, 0, 10);
        Check.plain(x, 10, 10);
        Check.plain(x, 0, 20);
        Check.tell(x, "gate weight 10 10 yes take 1 no back;");
        for (int i = 0; i < 5; i++) {
            x.put(1, 10, 10, 10, 2);
        }
        x.put(0, 10, 10, 10, 3);
        Check.due("one slug", x.explain(1), 1);
        Check.due("and four missing", x.explain(0), 5);
        Check.tell(x, "gate weight 20 20 yes take 1 no back;");
        x.put(2, 20, 10, 10, 3);
        x.put(2, 20, 10, 10, 3);
        Check.due("two of the other", x.explain(2), 2);
        Check.due("one stuck, two slugs, three missing", x.explain(0), 6);
    }
}
