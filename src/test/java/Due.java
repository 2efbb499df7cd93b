/** Counts the answers that are not as due, prints them, and ends the test. */
final class Due {
    private static final int MOST_PRINTED = 40;

    private static int wrong = 0;
    private static int asked = 0;
    private static String under = "";

    private Due() {
    }

    static void is(String call, long got, long want) {
        is(call, got, want, null);
    }

    /** The same, with the calls that came before where it isn't so. */
    static void is(String call, long got, long want, Run run) {
        asked++;
        if (got == want) {
            return;
        }
        wrong++;
        if (wrong <= MOST_PRINTED) {
            System.out.println(under + call + " answered " + got + ", due is " + want
                    + (run == null ? "" : "; the run: " + run.told()));
        }
    }

    static void rows(String call, long[] got, long... want) {
        is(call + " (how many)", got.length, want.length);
        for (int i = 0; i < got.length && i < want.length; i++) {
            is(call + " [" + i + "]", got[i], want[i]);
        }
    }

    /** What is printed from now on is printed under these words. */
    static void under(String words) {
        under = words.isEmpty() ? "" : words + ": ";
    }

    static int asked() {
        return asked;
    }

    static int write(Run x, int s, String text) {
        return write(x, s, 0, text);
    }

    static int write(Run x, int s, int sort, String text) {
        int done = x.row(s, sort, text.length());
        for (int i = 0; i < text.length(); i++) {
            x.set(s, i, text.charAt(i));
        }
        return done;
    }

    /** A new city read from a text. */
    static Run city(String text) {
        Run x = new Run();
        write(x, 7, text);
        if (x.city(7) < 1) {
            is("city(" + text + ") fault", x.fault(), -1);
        }
        return x;
    }

    static long[] picks(Run x) {
        long[] picks = new long[x.status(1)];
        for (int b = 0; b < picks.length; b++) {
            picks[b] = x.picks(b);
        }
        return picks;
    }

    static void end() {
        System.out.println(asked + " answers asked, " + wrong + " not as due");
        if (wrong != 0) {
            System.exit(1);
        }
    }
}
