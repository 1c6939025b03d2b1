/** The edges of promises 31 to 34: orders by lots, images. */
final class EdgesOfLots {
    private static final String ALL_OFF = "melts 99;feels weight;chills 0;";
    private static final long NO = IcedTooSoon.NO;
    private static final int LEAST = Integer.MIN_VALUE, MOST = Integer.MAX_VALUE;

    private EdgesOfLots() {
    }

    static void all() {
        drawn();
        odds();
        oddsPastTheLastSeed();
        oddsRefuses();
        image();
        back();
    }

    private static Run six(Run x) {
        return x.then("guest(0, 0)", "guest(0, 0)", "guest(0, 0)", "guest(0, 0)", "guest(0, 0)", "guest(0, 0)");
    }

    private static void drawn() {
        Doc.says(31, "ORDERS by a SEED: MOOD of all then, together (what 0), how many GLASSES are there (1).");
        Run x = six(Run.under(ALL_OFF));
        x.asks("drawn(0, 0)", -58).asks("drawn(0, 1)", 0).asks("drawn(99999, 0)", -68).asks("drawn(99999, 1)", 0);
        six(Run.under("melts 0;feels 0;chills 0;")).asks("drawn(0, 1)", 8).asks("drawn(99999, 1)", 8).asks("drawn(0, 0)", 0);
        // of all: of those that ordered nothing, too
        Run.of("guest(0, 41)").asks("drawn(0, 0)", 41).asks("drawn(0, 1)", 0);

        Doc.says(31, "-1000: seed, what.");
        Run y = EdgesOfGuests.house();
        for (int seed : new int[] {-1, 100000, LEAST, MOST}) {
            y.refuses("drawn(" + seed + ", 0)", -1000).refuses("drawn(" + seed + ", 1)", -1000).refuses("drawn(" + seed + ", 2)", -1000);
        }
        for (int what : new int[] {-1, 2, LEAST, MOST}) {
            y.refuses("drawn(0, " + what + ")", -1000).refuses("drawn(99999, " + what + ")", -1000);
        }
    }

    private static void odds() {
        Doc.says(32, "By how many of so many (1 .. 40) seeds, SEED and each 1 more, MOOD of all, together, is least"
                + " (-999 .. 999) or more: part 0 above, 1 below the line, in lowest terms.");
        Run x = six(Run.under(ALL_OFF));
        // drawn(0, 0) is -58, drawn(1, 0) is -104
        x.asks("odds(0, 1, -58, 0)", 1).asks("odds(0, 1, -58, 1)", 1).asks("odds(0, 1, -57, 0)", 0).asks("odds(0, 1, -57, 1)", 1);
        x.asks("odds(0, 2, -58, 0)", 1).asks("odds(0, 2, -58, 1)", 2).asks("odds(0, 2, -104, 0)", 1).asks("odds(0, 2, -104, 1)", 1);
        x.asks("odds(1, 1, -104, 0)", 1).asks("odds(1, 1, -103, 0)", 0).asks("odds(0, 2, -103, 1)", 2);
        x.asks("odds(0, 40, -999, 0)", 1).asks("odds(0, 40, -999, 1)", 1).asks("odds(0, 40, 999, 0)", 0).asks("odds(0, 40, 999, 1)", 1);
        new Run().asks("odds(0, 40, 0, 0)", 1).asks("odds(0, 40, 0, 1)", 1).asks("odds(0, 40, 1, 0)", 0).asks("odds(0, 40, 1, 1)", 1);
        // of forty, counted one by one
        int[] leasts = {-300, -60, 0, 60, 120};
        for (int least : leasts) {
            IcedTooSoon y = new IcedTooSoon();
            y.force(Due.text(y, ALL_OFF));
            for (int p = 0; p < 6; p++) {
                y.guest(0, 0);
            }
            int many = 0;
            for (int seed = 100; seed < 140; seed++) {
                many += y.drawn(seed, 0) >= least ? 1 : 0;
            }
            int by = gcd(many, 40);
            x.asks("odds(100, 40, " + least + ", 0)", many / by).asks("odds(100, 40, " + least + ", 1)", 40 / by);
        }
    }

    private static int gcd(int a, int b) {
        return b == 0 ? a : gcd(b, a % b);
    }

    /** Only the first must be 0 .. 99999: 100000 orders 3 33 25, 3 -63 95, 1 48 1, 2 -76 18, 4 -1 77, 0 -9 42, 4 13 57, 2 -54 63. */
    private static void oddsPastTheLastSeed() {
        Run x = six(Run.under(ALL_OFF));
        int next = -30 + 48 - 99 + 12 - 9;
        // drawn(99999, 0) is -68
        x.asks("odds(99999, 1, -68, 0)", 1).asks("odds(99999, 1, -67, 0)", 0).asks("odds(99999, 2, -78, 0)", 1)
                .asks("odds(99999, 2, " + next + ", 1)", 1).asks("odds(99999, 2, " + (next + 1) + ", 1)", 2)
                .asks("odds(99999, 40, -999, 0)", 1).asks("odds(99960, 40, -999, 0)", 1);
    }

    private static void oddsRefuses() {
        Doc.says(32, "NO: none such.");
        Run x = EdgesOfGuests.house();
        for (int seed : new int[] {-1, 100000, LEAST, MOST}) {
            x.refuses("odds(" + seed + ", 1, 0, 0)", NO).refuses("odds(" + seed + ", 40, 0, 1)", NO);
        }
        for (int seeds : new int[] {0, 41, -1, LEAST, MOST}) {
            x.refuses("odds(0, " + seeds + ", 0, 0)", NO);
        }
        for (int least : new int[] {-1000, 1000, LEAST, MOST}) {
            x.refuses("odds(0, 1, " + least + ", 0)", NO);
        }
        for (int part : new int[] {-1, 2, LEAST, MOST}) {
            x.refuses("odds(0, 1, 0, " + part + ")", NO);
        }
    }

    private static void image() {
        Doc.says(33, "AN IMAGE is kept: how many GUESTS.");
        Run x = new Run().does("image()", 0);
        for (int p = 0; p < 6; p++) {
            x.then("guest(0, " + p + ")").does("image()", p + 1);
        }
        // the last one is THE IMAGE, and it stays as it was
        x.then("put(5, 0, 50)").does("image()", 6).then("put(5, 0, 60)", "put(5, 1, 7)", "dawn(9)").does("back()", 6);
        x.asks("told(5, 0)", 50).asks("told(5, 1)", 0).asks("count(2)", 0).then("put(5, 0, 70)").does("back()", 6).asks("told(5, 0)", 50);
        x.does("image()", 6).does("back()", 6).asks("told(5, 0)", 50);
        // keeping one changes nothing else
        Run.of("guest(0, 3)", "order(0, 4, 5)", "put(0, 1, 6)", "dawn(7)").does("image()", 1).asks("told(0, 0)", 3)
                .asks("told(0, 1)", 6).asks("glass(0, 1)", 4).asks("glass(0, 2)", 5).asks("count(2)", 7);
    }

    private static void back() {
        Doc.says(34, "All that it keeps is as in THE IMAGE, GUESTS that came since are none: how many there are.");
        Run x = Run.of("image()", "guest(0, 0)", "order(0, 1, 50)").does("back()", 0).asks("count(0)", 0).asks("count(1)", 0)
                .refuses("told(0, 0)", -5000).refuses("glass(0, 0)", -6000).refuses("order(0, 0, 1)", -5).refuses("taken(0, 0)", -1100);
        x.does("guest(25, 8)", 0).asks("told(0, 4)", 0).asks("told(0, 2)", 2).asks("told(0, 3)", 5).asks("count(1)", 0);
        Run y = Run.of("guest(0, 0)", "order(0, 1, 50)", "image()", "guest(11, 1)", "guest(22, 2)", "guest(33, 3)", "guest(44, 4)",
                "guest(55, 5)", "order(5, 9, 90)").refuses("guest(0, 0)", -4).does("back()", 1).asks("count(0)", 1).asks("count(1)", 1);
        y.refuses("told(1, 0)", -5000).asks("run(0, 1)", 0).asks("falls(0, 99)", 1).does("guest(59, 9)", 1).asks("told(1, 3)", 9);
        // glasses that were full since, spilt since, gone off since
        Run z = Run.of("guest(0, 0)", "order(0, 1, 50)", "order(0, 2, 5)", "image()", "spill(0)", "day()").asks("count(1)", 0)
                .does("back()", 1).asks("count(1)", 2).asks("told(0, 0)", 0).asks("glass(1, 2)", 5).does("day()", 2);
        for (int g = 1; g < 10; g++) {
            z.then("order(0, 3, 50)");
        }
        z.refuses("order(0, 3, 50)", -4).does("back()", 1).asks("count(1)", 2).does("order(0, 3, 50)", 2).does("back()", 1)
                .does("back()", 1).asks("count(1)", 2);
        Run w = Run.of("dawn(999)", "image()", "dawn(0)", "day()").does("back()", 0).asks("count(2)", 999).refuses("day()", -3);
        w.text("melts 1;feels 2;chills 3;", 1).does("force(1)", 0).does("image()", 0).does("force(0)", 1).does("back()", 0)
                .asks("count(4)", 1);

        Doc.says(34, "STATE: there is none.");
        new Run().refuses("back()", -3);
        Run.of("guest(0, 5)", "order(0, 1, 50)", "dawn(7)", "sheet(0, 0, 5)", "feed(1, 32, 0, 0, 0, 0)").refuses("back()", -3)
                .does("image()", 1).does("back()", 1);
    }
}
