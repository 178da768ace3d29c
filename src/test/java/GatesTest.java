/** Promises 8 to 18. */
public final class GatesTest {
    private static final String ANY = "gate ring 0 99 yes back no back;";

    public static void main(String[] args) {
        tape();
        texts();
        faults();
        faultPlaces();
        ways();
        warmth();
        counts();
        manyStretches();
        wrongs();
        losses();
        bestMoves();
        moves();
        Check.end();
    }

    private static void tape() {
        SlotCoins x = new SlotCoins();
        for (int i = 1; i <= 20; i++) {
            Check.due("feed " + i, x.feed(i, 0, 0, 0, 0), 20 * i);
        }
        Check.due("feed 21", x.feed(0, 0, 0, 0, 0), -1);
        Check.due("400 bytes", x.count(6), 400);
        Check.bad("401", () -> x.text(401));
        Check.bad("below 0", () -> x.text(-1));
        Check.due("a throw leaves the tape", x.count(6), 400);
        Check.due("no text", x.text(0), 0);
        Check.due("the tape is empty then", x.count(6), 0);
        Check.bad("nothing there", () -> x.text(1));
        Check.due("feed anew", x.feed(0x67617465, 0x20202020, 0x20202020, 0x20202020, 0x20202020), 20);
        Check.due("text of one word", x.text(20), -12);
        Check.due("its place", x.fault(1), 20);
        Check.due("empty behind a fault", x.count(6), 0);
    }

    private static void texts() {
        SlotCoins x = new SlotCoins();
        Check.due("blanks", Check.tell(x, " \n "), 0);
        Check.due("one", Check.tell(x, "\n gate\nwidth 07 9 yes\n\nskip no take 7 ; \n"), 1);
        Check.due("measure", x.gate(0, 0), 1);
        Check.due("first N", x.gate(0, 1), 7);
        Check.due("second N", x.gate(0, 2), 9);
        Check.bad("what 3", () -> x.gate(0, 3));
        Check.bad("what -1", () -> x.gate(0, -1));
        Check.none("gate 1", () -> x.gate(1, 3));
        Check.none("gate -1", () -> x.gate(-1, 0));
        Check.due("without blanks", Check.tell(x, "gate weight0 5yes take3no back;gate ring9 9yes next no skip;"), 2);
        Check.due("take 03", x.gate(1, 0), 2);
        Check.due("no fault", x.fault(0), 0);
        Check.due("no place", x.fault(1), -1);
        Check.due("fault 2", x.fault(2), -1);
        Check.due("fault -1", x.fault(-1), -1);
        Check.due("eight", Check.tell(x, ANY.repeat(8)), 8);
        Check.due("nine", Check.tell(x, ANY.repeat(8) + " gate"), -15);
        Check.due("place of the ninth", x.fault(1), 8 * 32 + 1);
        Check.due("a fault leaves the gates", x.count(1), 8);
        Check.due("another word than gate", Check.tell(x, ANY.repeat(8) + " yes"), -12);
        Check.due("a sign more", Check.tell(x, ANY.repeat(8) + "#"), -11);
        Check.due("empty text, no gates", Check.tell(x, ""), 0);
        Check.due("none", x.count(1), 0);
    }

    private static void fault(String text, int kind, int place) {
        SlotCoins x = new SlotCoins();
        Check.due("[" + text + "]", Check.tell(x, text), kind == 0 ? 1 : -10 - kind);
        Check.due("[" + text + "] kind", x.fault(0), kind);
        Check.due("[" + text + "] place", x.fault(1), place);
        Check.due("[" + text + "] gates", x.count(1), kind == 0 ? 1 : 0);
    }

    private static void faults() {
        fault("gate ring 1 2 yes take 7 no back;", 0, -1);
        fault("Gate ring 1 2 yes back no back;", 1, 0);
        fault("gate\tring 1 2 yes back no back;", 1, 4);
        fault("gate ring 001 2 yes back no back;", 1, 10);
        fault("gate ring 1 2345 yes back no back;", 1, 12);
        fault("gate ring 1 2 yes take 777 no back;", 1, 23);
        fault("777", 1, 0);
        fault("gate ring 1 2 yes back no back" + (char) 233, 1, 30);
        fault("gate ring 9 8 yes back no back#", 4, 12);
        fault("gates ring 1 2 yes back no back;", 2, 0);
        fault(";", 2, 0);
        fault(" 7", 2, 1);
        fault("gate 7", 2, 5);
        fault("gate ringing", 2, 5);
        fault("gate ring ;", 2, 10);
        fault("gate ring 1 yes", 2, 12);
        fault("gate ring 1 2 no", 2, 14);
        fault("gate ring 1 2 yes yes", 2, 18);
        fault("gate ring 1 2 yes take back", 2, 23);
        fault("gate ring 1 2 yes back back", 2, 23);
        fault("gate ring 1 2 yes back no back gate", 2, 31);
        fault("gate ring 1 2 yes back no take 8;", 3, 31);
        fault("gate ring 1 2 yes take 99 no back;", 3, 23);
        fault("gate ring 1 0 yes back no back;", 4, 12);
        fault("gate ring 5 05 yes back no back;", 0, -1);
    }

    private static void faultPlaces() {
        fault("gate", 2, 4);
        fault("gate  \n", 2, 7);
        fault("gate ring 1 2 yes back no back ", 2, 31);
        fault("gate ring 1 2 yes take", 2, 22);
        SlotCoins x = new SlotCoins();
        Check.feedAll(x, "gate ring 1 2 yes back no back;#");
        Check.due("only the first n bytes", x.text(31), 1);
        Check.feedAll(x, "gate ring 123");
        Check.due("cut behind two digits", x.text(12), -12);
        Check.due("the end", x.fault(1), 12);
        Check.bad("a throw", () -> x.text(1));
        Check.due("leaves the fault", x.fault(0), 2);
        Check.due("the gates of before", x.count(1), 1);
    }

    private static void ways() {
        SlotCoins x = new SlotCoins();
        x.sort(5, 0, 9);
        x.sort(6, 0, 3);
        Check.due("without gates", x.taken(5, 5, 5), -1);
        Check.tell(x, "gate weight 5 6 yes next no skip; gate width 5 5 yes take 0 no back; gate ring 5 9 yes take 1 no next;");
        Check.due("yes, yes", x.taken(5, 5, 5), 0);
        Check.due("yes, no", x.taken(6, 4, 5), -1);
        Check.due("skip, yes", x.taken(7, 5, 9), 1);
        Check.due("skip, next: behind the last", x.taken(4, 5, 10), -1);
        x.set(0, 4);
        Check.due("not good", x.taken(7, 5, 9), -1);
        Check.tell(x, "gate weight 0 50 yes skip no take 2;");
        Check.due("skip behind the last", x.taken(0, 0, 0), -1);
        Check.due("no such sort", x.taken(51, 0, 0), -1);
        x.sort(1, 0, 9);
        Check.due("now there", x.taken(51, 0, 0), 2);
        for (int i = 0; i < 3; i++) {
            int w = i;
            Check.bad("below", () -> x.taken(w == 0 ? -1 : 0, w == 1 ? -1 : 0, w == 2 ? -1 : 0));
            Check.bad("above", () -> x.taken(w == 0 ? 100 : 0, w == 1 ? 100 : 0, w == 2 ? 100 : 0));
        }
    }

    private static void warmth() {
        SlotCoins x = new SlotCoins();
        x.sort(5, 0, 9);
        x.span(0, 2, 90, 99);
        Check.tell(x, "gate ring 99 99 yes take 0 no back;");
        Check.due("cold", x.passes(0, 0), 1);
        x.set(2, 4);
        Check.due("95 to 99 are read as 99", x.passes(0, 0), 5);
        Check.due("95", x.taken(0, 0, 95), 0);
        Check.due("94", x.taken(0, 0, 94), -1);
        x.set(2, -1);
        Check.due("98 at most", x.passes(0, 0), 0);
        x.span(0, 2, 0, 9);
        Check.tell(x, "gate ring 0 0 yes take 0 no back;");
        Check.due("0 and 1 are read as 0", x.passes(0, 0), 2);
        x.set(2, 1);
        Check.due("1 at least", x.passes(0, 0), 0);
        Check.due("refused", x.passes(0, -1), 10);
        x.set(2, -10);
        Check.due("all 0", x.passes(0, 0), 10);
    }

    private static void counts() {
        SlotCoins x = new SlotCoins();
        x.sort(5, 0, 9);
        Check.none("coins", () -> x.coins(1));
        Check.none("passes of", () -> x.passes(1, 0));
        Check.none("passes as", () -> x.passes(0, 1));
        Check.none("passes as -2", () -> x.passes(0, -2));
        x.sort(7, 0, 9);
        x.span(0, 0, 0, 99);
        x.span(0, 1, 0, 99);
        x.span(0, 2, 0, 99);
        Check.tell(x, "gate weight 10 19 yes next no skip; gate width 50 99 yes take 1 no back; gate weight 15 89 yes take 0 no next;"
            + "gate ring 0 0 yes take 1 no take 6;");
        Check.due("as 1", x.passes(0, 1), 10 * 50 * 100 + 20 * 100);
        Check.due("as 0", x.passes(0, 0), 70 * 10000);
        Check.due("refused", x.passes(0, -1), 1000000 - 52000 - 700000);
    }

    /** Eight GATES of one measure cut it into seventeen stretches. */
    private static void manyStretches() {
        for (int m = 0; m < 3; m++) {
            SlotCoins x = new SlotCoins();
            x.sort(5, 0, 9);
            x.sort(7, 0, 9);
            x.span(0, m, 0, 99);
            StringBuilder text = new StringBuilder();
            for (int g = 0; g < 8; g++) {
                text.append("gate ").append(new String[] {"weight", "width", "ring"}[m]).append(' ').append(10 * g + 5).append(' ')
                    .append(10 * g + 5 + g).append(g % 2 == 0 ? " yes take 0 no next;" : " yes take 1 no next;");
            }
            Check.due("eight", Check.tell(x, text.toString()), 8);
            Check.due("as 0", x.passes(0, 0), 1 + 3 + 5 + 7);
            Check.due("as 1", x.passes(0, 1), 2 + 4 + 6 + 8);
            Check.due("refused", x.passes(0, -1), 100 - 36);
        }
    }

    private static void wrongs() {
        SlotCoins x = new SlotCoins();
        Check.none("wrong of none", () -> x.wrong(0));
        x.sort(5, 0, 3);
        x.sort(20, 0, 9);
        x.sort(0, 0, 9);
        x.span(0, 0, 1, 7);
        Check.tell(x, "gate weight 1 2 yes take 1 no next; gate weight 3 4 yes take 0 no next; gate weight 5 6 yes take 3 no back;");
        Check.due("2 by 15, 3 refused", x.wrong(0), 60L * 1000000 / 7);
        x.set(3, 999);
        Check.due("3 by 999", x.wrong(0), (30L + 2997) * 1000000 / 7);
        x.set(0, 4);
        Check.due("not good: 2 by 20, refusals for nothing", x.wrong(0), 40L * 1000000 / 7);
        x.span(2, 0, 1, 3);
        x.set(0, 0);
        Check.due("a slug", x.wrong(2), 45L * 1000000 / 3);
        x.span(1, 0, 3, 4);
        Check.due("taken as a lesser one costs nothing", x.wrong(1), 0);
    }

    private static void losses() {
        SlotCoins x = new SlotCoins();
        Check.none("no gate", () -> x.loss(0, 100, 0));
        Check.plain(x, 10, 50);
        Check.plain(x, 0, 60);
        x.span(0, 0, 45, 54);
        x.flow(0, 3);
        x.flow(1, 2);
        Check.tell(x, "gate weight 45 54 yes take 0 no back;");
        Check.due("as it is", x.loss(0, 0, 0), 0);
        Check.due("one refused", x.loss(0, 1, 0), 3000000);
        Check.due("the slug, too", x.loss(0, 1, 6), 3000000 + 20000000);
        Check.due("nothing from one to the other", x.loss(0, 10, 0), 30000000);
        Check.due("kept within", x.loss(0, -99, 99), 20000000);
        Check.due("99 to 0", x.loss(0, 99, -99), 30000000);
        Check.bad("d above", () -> x.loss(0, 100, 0));
        Check.bad("e below", () -> x.loss(0, 0, -100));
        Check.bad("extremes", () -> x.loss(0, Integer.MAX_VALUE, Integer.MIN_VALUE));
        Check.none("gate 1", () -> x.loss(1, 0, 0));
        Check.due("the gate is as it was", x.gate(0, 1), 45);
    }

    private static void bestMoves() {
        SlotCoins x = new SlotCoins();
        Check.none("no gate", () -> x.best(0, 9));
        Check.plain(x, 10, 50);
        x.span(0, 0, 45, 54);
        x.flow(0, 1);
        Check.tell(x, "gate weight 48 52 yes take 0 no back;");
        Check.due("d", x.best(0, 0), -3);
        Check.due("e", x.best(0, 1), 2);
        Check.due("loss", x.best(0, 2), 0);
        Check.bad("what", () -> x.best(0, 3));
        Check.bad("what", () -> x.best(0, -1));
        Check.none("gate", () -> x.best(1, 0));
        Check.tell(x, "gate weight 48 48 yes back no take 0;");
        Check.due("nothing between: least d of like ones", x.best(0, 0), 0);
        Check.due("least e", x.best(0, 1), -1);
        Check.due("none lost", x.best(0, 2), 0);
        Check.tell(x, "gate weight 80 82 yes back no take 0;");
        Check.due("no move is needed", x.best(0, 0), 0);
        Check.due("no move", x.best(0, 1), 0);
        likeMoves();
    }

    private static void likeMoves() {
        SlotCoins x = new SlotCoins();
        Check.plain(x, 10, 50);
        Check.plain(x, 20, 53);
        x.span(1, 0, 53, 56);
        x.flow(0, 1);
        x.flow(1, 1);
        Check.tell(x, "gate weight 51 52 yes take 0 no take 1;");
        Check.due("50 belongs to it", x.best(0, 0), -1);
        Check.due("e stays", x.best(0, 1), 0);
    }

    private static void moves() {
        SlotCoins x = new SlotCoins();
        Check.none("no gate", () -> x.move(0, 100, 0));
        Check.tell(x, "gate weight 40 49 yes next no back;gate ring 5 5 yes back no next;");
        Check.due("moved", x.move(0, -50, 60), true);
        Check.due("0", x.gate(0, 1), 0);
        Check.due("99", x.gate(0, 2), 99);
        Check.due("to one number", x.move(0, 99, 0), true);
        Check.due("99 to 99", x.gate(0, 1), 99);
        Check.due("above", x.move(1, 1, 0), false);
        Check.due("not moved", x.gate(1, 1), 5);
        Check.due("not moved", x.gate(1, 2), 5);
        Check.bad("d", () -> x.move(0, -100, 0));
        Check.bad("e", () -> x.move(0, 0, 100));
        Check.none("gate 2", () -> x.move(2, 0, 0));
    }
}
