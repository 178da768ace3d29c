import java.util.Set;
import java.util.function.IntConsumer;

/** Boundary cases of the promises 8 to 11, and of the Terms that they use: a test for each sentence. */
public final class EdgesOfTextTest {
    private static final String[] GATE = {"gate", "ring", "1", "2", "yes", "take", "3", "no", "back", ";"};
    private static final String[] TOKENS = {"gate", "weight", "width", "ring", "5", "05", "yes", "no", "next", "skip", "take", "back",
        ";", "a", "z", "gates", "gat", "yesno", "weights", "rin", "taken", "nextskip"};
    private static final Set<String> GOALS = Set.of("next", "skip", "take", "back");
    private static final Set<String> MEASURES = Set.of("weight", "width", "ring");

    public static void main(String[] args) {
        twentyBytes();
        highestFirst();
        fullTape();
        firstBytes();
        emptyBehindText();
        howManyGates();
        lessTheFault();
        textRefused();
        longestText();
        anyNumberOfGates();
        measuresAndGoals();
        asLongAsTheyGo();
        blanksBetween();
        smallLetters();
        oneOrTwoDigits();
        firstAlongTheText();
        leastKind();
        noTokenBeginsSo();
        threeDigits();
        cantStandThere();
        textEndsThere();
        takeAboveSeven();
        belowTheFirst();
        ninthGate();
        tellsFromNowOn();
        faultOfTheLatest();
        noFault();
        otherFaults();
        ofAGate();
        noSuchGate();
        anotherOfAGate();
        Check.end();
    }

    private static void fault(String text, int kind, int place) {
        SlotCoins x = new SlotCoins();
        String shown = "[" + (text.length() > 60 ? ".. " + text.substring(text.length() - 50) : text) + "]";
        Check.due(shown, Check.tell(x, text), -10 - kind);
        Check.due(shown + " fault", x.fault(0), kind);
        Check.due(shown + " place", x.fault(1), place);
        Check.due(shown + " gates", x.count(1), 0);
    }

    private static void fine(String text, int gates) {
        SlotCoins x = new SlotCoins();
        String shown = "[" + (text.length() > 60 ? ".. " + text.substring(text.length() - 50) : text) + "]";
        Check.due(shown, Check.tell(x, text), gates);
        Check.due(shown + " fault", x.fault(0), 0);
        Check.due(shown + " place", x.fault(1), -1);
        Check.due(shown + " gates", x.count(1), gates);
    }

    private static String gates(int many) {
        return Edges.SHUT.repeat(many);
    }

    private static SlotCoins fed() {
        SlotCoins x = new SlotCoins();
        String text = Edges.SHUT + "gate width 3 4 yes next no skip; ".repeat(11);
        Check.feedAll(x, text.substring(0, 380));
        return x;
    }

    /** Promise 8: "Twenty bytes come behind those on the tape" */
    private static void twentyBytes() {
        SlotCoins x = new SlotCoins();
        for (int i = 1; i <= 20; i++) {
            Check.due("feed " + i, x.feed(-1, Integer.MIN_VALUE, Integer.MAX_VALUE, 0, i), 20 * i);
            Check.due("bytes " + i, x.count(6), 20 * i);
        }
        SlotCoins y = new SlotCoins();
        Check.feedAll(y, "gate ring 7 8 yes ba");
        Check.feedAll(y, "ck no back;         ");
        Check.due("one behind the other", y.text(40), 1);
        Check.due("told so", y.gate(0, 1), 7);
    }

    /** Promise 8: "the highest of each int first: how many it has" */
    private static void highestFirst() {
        SlotCoins x = new SlotCoins();
        // "gate", " rin", "g 1 ", "2 ye", "s ba" and "ck n", "o ba", "ck; "
        Check.due("twenty", x.feed(0x67617465, 0x2072696E, 0x67203120, 0x32207965, 0x73206261), 20);
        Check.due("forty", x.feed(0x636B206E, 0x6F206261, 0x636B3B20, 0x20202020, 0x20202020), 40);
        Check.due("one gate", x.text(40), 1);
        Check.due("from 1", x.gate(0, 1), 1);
        Check.due("to 2", x.gate(0, 2), 2);
        // A byte above 127 at each place of an int leaves the bytes beside it as they are.
        for (int place = 0; place < 20; place++) {
            int[] five = new int[5];
            for (int i = 0; i < 20; i++) {
                five[i / 4] = five[i / 4] << 8 | (i == place ? 0xFF : 32);
            }
            SlotCoins y = new SlotCoins();
            y.feed(five[0], five[1], five[2], five[3], five[4]);
            Check.due("255 at " + place, y.text(20), -11);
            Check.due("its place", y.fault(1), place);
        }
    }

    /** Promise 8: "NONE, and nothing changes, if there would be more than 400." */
    private static void fullTape() {
        SlotCoins x = fed();
        Check.due("just 400", x.feed(0x67617465, 0x20202020, 0x20202020, 0x20202020, 0x20202020), 400);
        Check.due("twenty more", x.feed(0, 0, 0, 0, 0), -1);
        Check.due("again", x.feed(0, 0, 0, 0, 0), -1);
        Check.due("still 400", x.count(6), 400);
        Check.due("text of all", x.text(400), -15);
        Check.due("then there is room", x.feed(0, 0, 0, 0, 0), 20);
        Edges.changesNothing("a feed beyond 400", EdgesOfTextTest::full, y -> y.feed(0x20202020, 0, 0, 0, 0));
        Edges.changes("a feed up to 400", EdgesOfTextTest::fed, y -> y.feed(0x20202020, 0, 0, 0, 0));
    }

    private static SlotCoins full() {
        SlotCoins x = fed();
        x.feed(0x67617465, 0x20202020, 0x20202020, 0x20202020, 0x20202020);
        return x;
    }

    /** Promise 9: "The first n bytes of the tape" */
    private static void firstBytes() {
        String text = "gate ring 1 2 yes take 3 no back;#";
        for (int n = 0; n <= 33; n++) {
            SlotCoins x = new SlotCoins();
            Check.feedAll(x, text);
            Check.due("first " + n, x.text(n), n == 0 ? 0 : n == 33 ? 1 : -12);
        }
        SlotCoins x = new SlotCoins();
        Check.feedAll(x, text);
        Check.due("all 34", x.text(34), -11);
        SlotCoins y = new SlotCoins();
        Check.feedAll(y, "gate ring 1 2345 yes");
        Check.due("a number cut to two digits", y.text(14), -12);
        Check.due("at the end", y.fault(1), 14);
        SlotCoins z = new SlotCoins();
        Check.feedAll(z, "gate ring 1 2 yes backs no back;");
        Check.due("a word cut", z.text(22), -12);
        Check.due("is the word", z.fault(1), 22);
    }

    /** Promise 9: "of the tape (which is empty then) are the TEXT" */
    private static void emptyBehindText() {
        int[] lengths = {0, 1, 19, 20, 40};
        for (int n : lengths) {
            SlotCoins x = new SlotCoins();
            Check.feedAll(x, " ".repeat(n == 1 ? 1 : 40));
            int has = x.count(6);
            Check.due("blanks", x.text(Math.min(n, has)), 0);
            Check.due("nothing is left of " + has, x.count(6), 0);
            Check.bad("not one byte", () -> x.text(1));
            Check.due("begun anew", x.feed(0x20202020, 0x20202020, 0x20202020, 0x20202020, 0x2020203B), 20);
            Check.due("the sign", x.text(20), -12);
            Check.due("at its new place", x.fault(1), 19);
            Check.due("nothing is left behind a fault", x.count(6), 0);
        }
    }

    /** Promise 9: "are the TEXT: how many GATES" */
    private static void howManyGates() {
        for (int many = 0; many <= 8; many++) {
            fine(gates(many), many);
        }
    }

    /** Promise 9: "-10 less the FAULT." */
    private static void lessTheFault() {
        String[] faulty = {"#", "yes", "gate ring 1 2 yes take 8", "gate ring 2 1", gates(8) + "gate"};
        for (int kind = 1; kind <= 5; kind++) {
            SlotCoins x = new SlotCoins();
            Check.due("fault " + kind, Check.tell(x, faulty[kind - 1]), -10 - kind);
        }
    }

    /** Promise 9: "IllegalArgumentException: n is below 0 or above what it has." */
    private static void textRefused() {
        SlotCoins x = new SlotCoins();
        Edges.badBut("text of an empty tape", 0, 0, n -> x.text(n));
        Check.due("of 0 bytes", x.text(0), 0);
        Check.feedAll(x, Edges.SHUT);
        Edges.badBut("text of forty bytes", 0, 40, n -> x.text(n));
        Check.due("the tape is as it was", x.count(6), 40);
        Check.due("all forty", x.text(40), 1);
        SlotCoins y = full();
        Edges.badBut("text of a full tape", 0, 400, n -> y.text(n));
        Check.due("none of them told a fault", y.fault(0), 0);
    }

    /** Promise 9: "GATES are told by a TEXT of at most 400 bytes" */
    private static void longestText() {
        fine(gates(8) + " ".repeat(144), 8);
        fine(" ".repeat(144) + gates(8), 8);
        fine("gate" + "\n".repeat(370) + "ring 1 2 yes back no back;", 1);
        fault("gate" + "\n".repeat(371) + "ring 1 2 yes back no back", 2, 400);
    }

    /** Promise 9: "({ } any number of times.)" */
    private static void anyNumberOfGates() {
        fine("", 0);
        fine(" ", 0);
        fine("\n \n", 0);
        fine(gates(1), 1);
        fine(gates(2), 2);
        SlotCoins x = new SlotCoins();
        Check.due("three", Check.tell(x, gates(3)), 3);
        Check.due("none at all", Check.tell(x, ""), 0);
        Check.none("they are gone", () -> x.gate(0, 0));
    }

    /** Promise 9: "{ GATE ; } GATE: gate MEASURE N N yes GOAL no GOAL. MEASURE: weight, width, ring. GOAL: next | skip | take N | back." */
    private static void measuresAndGoals() {
        String[] goals = {"next", "skip", "take 0", "take 7", "take 07", "back"};
        for (String measure : MEASURES) {
            for (String yes : goals) {
                for (String no : goals) {
                    fine("gate " + measure + " 0 99 yes " + yes + " no " + no + ";", 1);
                }
            }
        }
        SlotCoins x = new SlotCoins();
        for (String measure : new String[] {"ring", "weight", "width", "weight", "ring", "width", "ring"}) {
            Check.tell(x, "gate " + measure + " 0 99 yes next no skip;");
            Check.due("told anew: " + measure, x.gate(0, 0), measure.equals("weight") ? 0 : measure.equals("width") ? 1 : 2);
        }
        otherWords();
    }

    /** Each word of a TEXT with a letter more, less or another: it can't stand there. */
    private static void otherWords() {
        String[] texts = {"gate ring 1 2 yes back no back;", "gate weight 1 2 yes take 3 no next;", "gate width 1 2 yes skip no take 3;"};
        for (String text : texts) {
            for (int i = 0; i < text.length(); i++) {
                if (!Character.isLetter(text.charAt(i))) {
                    continue;
                }
                int word = Math.max(text.lastIndexOf(' ', i), -1) + 1;
                char other = text.charAt(i) == 'q' ? 'j' : 'q';
                fault(text.substring(0, i) + other + text.substring(i + 1), 2, word);
                fault(text.substring(0, i) + other + text.substring(i), 2, word);
                String less = text.substring(0, i) + text.substring(i + 1);
                fault(less, 2, word);
            }
        }
    }

    /** Promise 9: "TOKENS, as long as they go" */
    private static void asLongAsTheyGo() {
        fine("gate ring1 2yes take3no back;", 1);
        fine("gate weight0 0yes back no back;gate ring 0 0yes back no back;", 2);
        fault("gatering 1 2 yes back no back;", 2, 0);
        fault("gate ring 1 2 yesback no back;", 2, 14);
        fault("gate ring 1 2 yes backno back;", 2, 18);
        fault("gate ring 1 2 yes taken 3 no back;", 2, 18);
        fault("gate ring 12 yes back no back;", 2, 13);
        fault("gate ring 123 yes back no back;", 1, 10);
    }

    /** Promise 9: "between them blanks (10, 32)" */
    private static void blanksBetween() {
        for (int sign = 0; sign < 256; sign++) {
            String text = "gate" + (char) sign + "ring 1 2 yes back no back;";
            if (sign == 10 || sign == 32) {
                fine(text, 1);
            } else if (sign >= 'a' && sign <= 'z') {
                fault(text, 2, 0);
            } else if (sign >= '0' && sign <= '9' || sign == ';') {
                fault(text, 2, 4);
            } else {
                fault(text, 1, 4);
            }
        }
        fine("\n\n  gate \n ring\n1\n2\nyes  back\n\nno back  ;\n\n ", 1);
        fine("gate ring 1 2 yes take 3 no take 4;gate ring 1 2 yes back no back ;", 2);
    }

    /** Promise 9: "words (small letters)" */
    private static void smallLetters() {
        for (int sign = 0; sign < 256; sign++) {
            String text = "" + (char) sign;
            if (sign == 10 || sign == 32) {
                fine(text, 0);
            } else if (sign >= 'a' && sign <= 'z' || sign >= '0' && sign <= '9' || sign == ';') {
                fault(text, 2, 0);
            } else {
                fault(text, 1, 0);
            }
        }
        fault("GATE ring 1 2 yes back no back;", 1, 0);
        fault("gate ring 1 2 yes Back no back;", 1, 18);
        fault("gate ring 1 2 yes baCk no back;", 2, 18);
        fault("gate ring 1 2 yes back no backX", 1, 30);
    }

    /** Promise 9: "N (1 or 2 digits), the sign ;." */
    private static void oneOrTwoDigits() {
        int[] one = {0, 5, 9};
        for (int n : one) {
            SlotCoins x = new SlotCoins();
            Check.due("one digit", Check.tell(x, "gate ring " + n + " 0" + n + " yes back no back;"), 1);
            Check.due("is " + n, x.gate(0, 1), n);
            Check.due("with a 0 ahead, too", x.gate(0, 2), n);
        }
        SlotCoins x = new SlotCoins();
        Check.due("two digits", Check.tell(x, "gate ring 10 99 yes back no back;"), 1);
        Check.due("10", x.gate(0, 1), 10);
        Check.due("99", x.gate(0, 2), 99);
        for (int sign = 0; sign < 256; sign++) {
            String text = "gate ring 1" + (char) sign + "2 yes back no back;";
            if (sign == 10 || sign == 32) {
                fine(text, 1);
            } else if (sign >= '0' && sign <= '9') {
                fault(text, 1, 10);
            } else if (sign >= 'a' && sign <= 'z' || sign == ';') {
                fault(text, 2, 11);
            } else {
                fault(text, 1, 11);
            }
        }
    }

    /** Promise 9: "FAULTS, the first along the text" */
    private static void firstAlongTheText() {
        fault("gate ring 9 8 yes take 9 no back#", 4, 12);
        fault("gate ring 1 2 yes take 9 no back#", 3, 23);
        fault("gate ring 1 2 no take 9 no back#", 2, 14);
        fault("gate ring 1 2 yes take 9 123", 3, 23);
        fault("gate ring 1 2 yes# take 9", 1, 17);
        fault("yes #", 2, 0);
        fault("# yes", 1, 0);
        fault(gates(7) + "gate ring 2 1 yes back no back;" + gates(1), 4, 7 * 32 + 12);
        fault(gates(8) + "gate ring 2 1 yes back no back;", 5, 256);
        fault(gates(8) + "gate#", 5, 256);
    }

    /** Promise 9: "of one TOKEN the least kind" */
    private static void leastKind() {
        fault("gate ring 1 2 yes take 800 no back;", 1, 23);
        fault("gate ring 9 008 yes back no back;", 1, 12);
        fault("gate ring 1 2 yes 100", 1, 18);
        fault("#gate", 1, 0);
        fault(gates(8) + "#", 1, 256);
        fault(gates(8) + "777", 1, 256);
        fault(gates(8) + "7", 2, 256);
        fault(gates(8) + "yes", 2, 256);
        fault(gates(8) + ";", 2, 256);
        fault(gates(8) + "gates", 2, 256);
    }

    /** Promise 9: "1 no TOKEN begins so" */
    private static void noTokenBeginsSo() {
        for (int i = 0; i <= GATE.length; i++) {
            String before = ahead(i);
            fault(before + "#", 1, before.length());
            fault(before + (char) 9 + " gate", 1, before.length());
            fault(before + (char) 0, 1, before.length());
            fault(before + (char) 128, 1, before.length());
            fault(before + (char) 255, 1, before.length());
            fault(before + "-1", 1, before.length());
        }
    }

    /** The first TOKENS of a GATE, a blank behind each. */
    private static String ahead(int many) {
        StringBuilder b = new StringBuilder();
        for (int i = 0; i < many; i++) {
            b.append(GATE[i]).append(' ');
        }
        return b.toString();
    }

    /** Promise 9: "(3 digits and more: at their first)" */
    private static void threeDigits() {
        String[] numbers = {"000", "001", "007", "100", "999", "0000", "1234", "4294967297", "18446744073709551617", "0".repeat(100)};
        for (String n : numbers) {
            for (int i = 0; i <= GATE.length; i++) {
                String before = ahead(i);
                fault(before + n, 1, before.length());
                fault(before + n + " gate", 1, before.length());
            }
        }
        fault("1".repeat(400), 1, 0);
        fault("gate ring 1 222yes", 1, 12);
    }

    private static boolean mayStand(int i, String token) {
        boolean number = Character.isDigit(token.charAt(0));
        switch (i) {
            case 1:
                return MEASURES.contains(token);
            case 2:
            case 3:
            case 6:
                return number;
            case 5:
            case 8:
                return GOALS.contains(token);
            case 10:
                return token.equals("gate");
            default:
                return token.equals(GATE[i]);
        }
    }

    /** Promise 9: "2 it can't stand there" */
    private static void cantStandThere() {
        for (int i = 0; i <= GATE.length; i++) {
            String before = ahead(i);
            for (String token : TOKENS) {
                // What may stand there is followed by the end, where nothing more is looked for.
                int place = mayStand(i, token) ? before.length() + token.length() : before.length();
                if (i != 9 || !token.equals(";")) {
                    fault(before + token, 2, place);
                }
                if (!mayStand(i, token)) {
                    fault(before + token + " # 123", 2, place);
                }
            }
        }
        fault("gate ring 1 2 yes next 3 no back;", 2, 23);
        fault("gate ring 1 2 yes back 3 no back;", 2, 23);
        fault("gate ring 1 2 yes skip no next 3;", 2, 31);
        fault("gate ring 1 2 yes back no back;;", 2, 31);
        fine("gate ring 1 2 yes next no skip;", 1);
        fine("gate ring 1 2 yes skip no next;", 1);
        fine("gate ring 1 2 yes back no take 7;", 1);
        fine("gate weight 1 2 yes take 0 no back;", 1);
        fine("gate width 1 2 yes take 0 no take 1;", 1);
    }

    /** Promise 9: "(the end: the text's length)" */
    private static void textEndsThere() {
        for (int i = 1; i < GATE.length; i++) {
            String before = ahead(i);
            fault(before, 2, before.length());
            fault(before.substring(0, before.length() - 1), 2, before.length() - 1);
            fault(before + "\n \n", 2, before.length() + 3);
            fault(gates(2) + before, 2, 64 + before.length());
        }
        SlotCoins x = new SlotCoins();
        Check.feedAll(x, "gate ring 1 2 yes back no back;");
        Check.due("less than the tape has", x.text(30), -12);
        Check.due("the text's length, not the tape's", x.fault(1), 30);
    }

    /** Promise 9: "3 N behind take is above 7." */
    private static void takeAboveSeven() {
        for (int n = 0; n <= 99; n++) {
            String in = n % 2 == 0 || n > 9 ? "" + n : "0" + n;
            if (n <= 7) {
                fine("gate ring 1 2 yes take " + in + " no back;", 1);
                fine("gate ring 1 2 yes back no take " + in + ";", 1);
            } else {
                fault("gate ring 1 2 yes take " + in + " no back;", 3, 23);
                fault("gate ring 1 2 yes back no take " + in + ";", 3, 31);
            }
        }
        fault("gate ring 1 2 yes take 08 no back;", 3, 23);
        fine("gate ring 8 9 yes back no back;", 1);
    }

    /** Promise 9: "4 the second N of a GATE is below the first one (at it)." */
    private static void belowTheFirst() {
        int[] some = {0, 1, 2, 8, 9, 10, 11, 49, 50, 51, 89, 90, 98, 99};
        for (int a : some) {
            for (int b : some) {
                String ahead = "gate width " + a + " ";
                if (b < a) {
                    fault(ahead + b + " yes back no back;", 4, ahead.length());
                } else {
                    fine(ahead + b + " yes back no back;", 1);
                }
            }
        }
        fault("gate ring 10 09 yes", 4, 13);
        fault("gate ring 1 \n 0", 4, 14);
        fault(gates(1) + "gate ring 1 0", 4, 44);
    }

    /** Promise 9: "5 the first TOKEN of a 9th GATE." */
    private static void ninthGate() {
        fine(gates(8), 8);
        fine(gates(8) + " \n ", 8);
        fault(gates(9), 5, 256);
        fault(gates(8) + "gate", 5, 256);
        fault(gates(8) + " \n gate ring 1 2 yes back no back;", 5, 259);
        fault(gates(12), 5, 256);
    }

    /** Promise 9: "A TEXT without a FAULT tells the GATES from now on." */
    private static void tellsFromNowOn() {
        SlotCoins x = new SlotCoins();
        x.sort(5, 0, 9);
        Check.tell(x, "gate width 3 4 yes take 0 no back;gate ring 5 6 yes next no skip;");
        Check.due("told", x.taken(0, 3, 0), 0);
        Check.due("with a fault behind a whole gate", Check.tell(x, "gate ring 7 8 yes back no back;gate"), -12);
        Check.due("still two", x.count(1), 2);
        Check.due("the first of before", x.gate(0, 0), 1);
        Check.due("from 3", x.gate(0, 1), 3);
        Check.due("to 4", x.gate(0, 2), 4);
        Check.due("taken as before", x.taken(0, 3, 0), 0);
        Check.due("one now", Check.tell(x, "gate ring 7 8 yes back no take 0;"), 1);
        Check.due("another one", x.gate(0, 0), 2);
        Check.due("not taken", x.taken(0, 3, 7), -1);
        Check.due("taken", x.taken(0, 9, 9), 0);
        Check.due("none now", Check.tell(x, "\n"), 0);
        Check.due("refused", x.taken(0, 9, 9), -1);
    }

    /** Promise 10: "Of the latest text() that threw nothing, what 0: the FAULT" */
    private static void faultOfTheLatest() {
        SlotCoins x = new SlotCoins();
        Check.tell(x, "gate ring 2 1");
        Check.due("fault", x.fault(0), 4);
        Check.due("place", x.fault(1), 12);
        Check.bad("throws", () -> x.text(1));
        Check.bad("throws", () -> x.text(-1));
        Check.due("still that fault", x.fault(0), 4);
        Check.due("still that place", x.fault(1), 12);
        x.feed(0x23232323, 0, 0, 0, 0);
        Check.due("feeding tells none", x.fault(0), 4);
        x.text(20);
        Check.due("another", x.fault(0), 1);
        Check.due("another place", x.fault(1), 0);
    }

    /** Promise 10: "the FAULT (0 without, and at first), 1: its place (NONE without)." */
    private static void noFault() {
        SlotCoins x = new SlotCoins();
        Check.due("at first", x.fault(0), 0);
        Check.due("no place at first", x.fault(1), -1);
        Check.tell(x, Edges.SHUT);
        Check.due("without", x.fault(0), 0);
        Check.due("no place", x.fault(1), -1);
        Check.tell(x, "yes");
        Check.due("with one", x.fault(0), 2);
        Check.due("at 0", x.fault(1), 0);
        Check.tell(x, "");
        Check.due("without again", x.fault(0), 0);
        Check.due("no place again", x.fault(1), -1);
    }

    /** Promise 10: "NONE for others." */
    private static void otherFaults() {
        SlotCoins x = new SlotCoins();
        Check.tell(x, "yes");
        for (int what : new int[] {-1, 2, 3, -2, 100, Integer.MAX_VALUE, Integer.MIN_VALUE}) {
            Check.due("fault " + what, x.fault(what), -1);
        }
    }

    /** Promise 11: "Of a GATE, what 0: MEASURE, 1: its first N, 2: its second one." */
    private static void ofAGate() {
        SlotCoins x = new SlotCoins();
        String[] measures = {"weight", "width", "ring"};
        StringBuilder text = new StringBuilder();
        for (int g = 0; g < 8; g++) {
            text.append("gate ").append(measures[g % 3]).append(' ').append(g == 0 ? 0 : 10 + g).append(' ')
                .append(g == 7 ? 99 : 20 + g).append(" yes back no next;");
        }
        Check.due("eight", Check.tell(x, text.toString()), 8);
        for (int g = 0; g < 8; g++) {
            Check.due("measure of " + g, x.gate(g, 0), g % 3);
            Check.due("first of " + g, x.gate(g, 1), g == 0 ? 0 : 10 + g);
            Check.due("second of " + g, x.gate(g, 2), g == 7 ? 99 : 20 + g);
        }
    }

    /** Promise 11: "NoSuchElementException: no such GATE (as everywhere)" */
    private static void noSuchGate() {
        SlotCoins x = new SlotCoins();
        int[] many = {0, 1, 8, 3, 0};
        for (int m : many) {
            Check.tell(x, gates(m));
            IntConsumer[] calls = {g -> x.gate(g, 0), g -> x.loss(g, 0, 0), g -> x.best(g, 0), g -> x.move(g, 0, 0)};
            String[] names = {"gate", "loss", "best", "move"};
            for (int i = 0; i < calls.length; i++) {
                Edges.noneBut(names[i] + " of " + m + " gates:", m, calls[i]);
            }
        }
    }

    /** Promise 11: "IllegalArgumentException: another what." */
    private static void anotherOfAGate() {
        SlotCoins x = new SlotCoins();
        Check.tell(x, gates(2));
        Edges.badBut("gate 0 what", 0, 2, what -> x.gate(0, what));
        Edges.badBut("gate 1 what", 0, 2, what -> x.gate(1, what));
    }
}
