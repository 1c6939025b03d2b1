/** What the tests share: answers that are due, and texts fed to the tape. */
final class Due {
    static final String ORDINARY = "melts 10 ; feels weight ; chills 5 ;";
    /** Mutants needs no more than the first wrong answer. */
    private static final boolean AT_ONCE = Boolean.getBoolean("due.at.once");
    private static int asked = 0;
    private static int wrong = 0;

    private Due() {
    }

    static void is(String call, long got, long want) {
        asked++;
        if (got != want) {
            wrong++;
            System.out.println(call + " answered " + got + ", due is " + want);
            if (AT_ONCE) {
                System.exit(1);
            }
        }
    }

    /** Ends the test: with exit code 1, if an answer was wrong. */
    static void end() {
        System.out.println(asked + " answers, " + wrong + " wrong");
        if (wrong != 0 || asked == 0) {
            System.exit(1);
        }
    }

    static void feed(IcedTooSoon x, String text) {
        for (int i = 0; i < text.length(); i++) {
            x.feed(1, text.charAt(i), 0, 0, 0, 0);
        }
    }

    static int text(IcedTooSoon x, String text) {
        feed(x, text);
        return x.text();
    }

    /** A new object whose law is that text. */
    static IcedTooSoon under(String text) {
        IcedTooSoon x = new IcedTooSoon();
        x.force(text(x, text));
        return x;
    }

    static void fill(IcedTooSoon x, int s, int sort, int... cells) {
        x.sheet(s, sort, cells.length);
        for (int i = 0; i < cells.length; i++) {
            x.cell(s, i, cells[i]);
        }
    }
}
