/** Compares answers with those that are due, and keeps how many were not. */
final class Check {
    private static int wrong = 0;
    private static int asked = 0;

    private Check() {
    }

    static void due(String call, long got, long want) {
        asked++;
        if (got != want) {
            wrong++;
            System.out.println(call + " answered " + got + ", due is " + want);
        }
    }

    static void due(String call, boolean got, boolean want) {
        due(call, got ? 1 : 0, want ? 1 : 0);
    }

    static void refused(String call, Class<? extends RuntimeException> due, Runnable run) {
        asked++;
        Class<?> got = null;
        try {
            run.run();
        } catch (RuntimeException e) {
            got = e.getClass();
        }
        if (got != due) {
            wrong++;
            System.out.println(call + " threw " + got + ", due is " + due);
        }
    }

    /** IllegalArgumentException is due. */
    static void bad(String call, Runnable run) {
        refused(call, IllegalArgumentException.class, run);
    }

    /** NoSuchElementException is due. */
    static void none(String call, Runnable run) {
        refused(call, java.util.NoSuchElementException.class, run);
    }

    static void feedAll(SlotCoins x, String text) {
        for (int at = 0; at < text.length(); at += 20) {
            int[] four = new int[5];
            for (int i = 0; i < 20; i++) {
                int sign = at + i < text.length() ? text.charAt(at + i) : ' ';
                four[i / 4] |= (sign & 255) << 24 - 8 * (i % 4);
            }
            x.feed(four[0], four[1], four[2], four[3], four[4]);
        }
    }

    static int tell(SlotCoins x, String text) {
        feedAll(x, text);
        return x.text(text.length());
    }

    /** A SORT whose COINS all have that weight, width 10 and ring 10. */
    static int plain(SlotCoins x, int value, int weight) {
        int k = x.sort(value, 0, 999);
        x.span(k, 0, weight, weight);
        x.span(k, 1, 10, 10);
        x.span(k, 2, 10, 10);
        return k;
    }

    static void end() {
        System.out.println(asked + " answers looked at, " + wrong + " not as due");
        if (wrong != 0 || asked == 0) {
            System.exit(1);
        }
    }
}
