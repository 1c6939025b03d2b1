/** The edges of promises 13 to 19: days. */
final class EdgesOfDays {
    private static final String ONE_MELTS = "melts 1;feels weight;chills 0;";
    private static final int LEAST = Integer.MIN_VALUE, MOST = Integer.MAX_VALUE;

    private EdgesOfDays() {
    }

    static void all() {
        day();
        iced();
        spill();
        run();
        runRefuses();
        goesOff();
        worst();
        worstOfSome();
        falls();
    }

    private static void day() {
        Doc.says(13, "A DAY, truly: which GLASSES go OFF (bits).");
        new Run().does("day()", 0).asks("count(2)", 1);
        Run x = Run.of("guest(0, 0)");
        for (int g = 0; g < 10; g++) {
            x.then("order(0, 1, 5)");
        }
        x.does("day()", 1023).asks("count(1)", 0).asks("told(0, 0)", 10).does("day()", 0);
        for (int g = 0; g < 10; g++) {
            x.then("order(0, 1, " + (g == 0 || g == 9 ? 10 : 11) + ")");
        }
        x.does("day()", 513).asks("count(1)", 8).does("day()", 510).asks("count(1)", 0).asks("count(2)", 4);

        Doc.says(13, "STATE: DAY is 999.");
        Run y = Run.of("guest(0, 0)", "order(0, 7, 5)", "put(0, 1, 50)", "dawn(999)").refuses("day()", -3);
        y.asks("told(0, 0)", 0).asks("told(0, 1)", 50).asks("glass(0, 2)", 5).asks("count(2)", 999);
        y.then("dawn(998)").does("day()", 1).asks("told(0, 0)", 7).asks("count(2)", 999).refuses("day()", -3);
        EdgesOfGuests.house().then("dawn(999)").refuses("day()", -3);
    }

    private static void iced() {
        Doc.says(14, "ICE of a GLASS is much (0 .. 99) more (99 at most), truly: ICE then.");
        Run x = Run.of("guest(0, 0)", "order(0, 0, 1)", "order(0, 0, 99)").does("iced(0, 0)", 1).does("iced(0, 1)", 2);
        x.does("iced(0, 96)", 98).does("iced(0, 1)", 99).does("iced(0, 1)", 99).does("iced(1, 0)", 99).does("iced(1, 99)", 99);
        x.asks("glass(0, 2)", 99).asks("told(0, 1)", 10);
        Run.of("guest(0, 0)", "order(0, 0, 1)").does("iced(0, 98)", 99);
        Run.of("guest(0, 0)", "order(0, 0, 2)").does("iced(0, 98)", 99);
        Run.of("guest(0, 0)", "order(0, 0, 1)").does("iced(0, 99)", 99).asks("goesOff(0)", 10);
        Run y = Run.of("guest(0, 0)");
        for (int g = 0; g < 10; g++) {
            y.then("order(0, 0, 5)");
        }
        y.does("iced(9, 6)", 11).asks("glass(8, 2)", 5).does("day()", 511);

        Doc.says(14, "-6: no such GLASS;");
        for (int g : new int[] {-1, 7, 9, 10, LEAST, MOST}) {
            EdgesOfGuests.house().refuses("iced(" + g + ", 1)", -6).refuses("iced(" + g + ", 100)", -6);
        }
        Run.of("guest(0, 0)", "order(0, 0, 5)", "day()").refuses("iced(0, 5)", -6);

        Doc.says(14, "-7: much.");
        for (int much : new int[] {-1, 100, LEAST, MOST}) {
            EdgesOfGuests.house().refuses("iced(0, " + much + ")", -7);
        }
    }

    private static void spill() {
        Doc.says(15, "A GLASS isn't there any more, truly (nobody FEELS it): its WEIGHT.");
        Run x = Run.of("guest(0, 5)");
        for (int g = 0; g < 10; g++) {
            x.then("order(0, " + (g == 0 ? -99 : g == 9 ? 99 : 0) + ", 5)");
        }
        x.does("spill(0)", -99).does("spill(9)", 99).does("spill(4)", 0).asks("count(1)", 7).asks("told(0, 4)", 494)
                .asks("told(0, 0)", 5).asks("told(0, 1)", 50).does("day()", 494).asks("told(0, 0)", 5);

        Doc.says(15, "-6000: no such GLASS.");
        for (int g : new int[] {-1, 7, 9, 10, LEAST, MOST}) {
            EdgesOfGuests.house().refuses("spill(" + g + ")", -6000);
        }
        Run.of("guest(0, 0)", "order(0, 3, 5)").does("spill(0)", 3).refuses("spill(0)", -6000);
        new Run().refuses("spill(0)", -6000);
    }

    /** Guest p has MOOD 10 * p and COLD 20 * p; a glass of WEIGHT 5 of guest 5 goes off on the 40th day. */
    private static Run six() {
        Run x = Run.under(ONE_MELTS);
        for (int p = 0; p < 6; p++) {
            x.then("guest(0, " + (10 * p) + ")", "put(" + p + ", 1, " + Math.min(99, 20 * p) + ")");
        }
        return x.then("order(5, 5, 40)", "order(0, -7, 1)", "order(0, 3, 99)");
    }

    private static void run() {
        Doc.says(16, "n DAYS (0 .. 40), in thought: how many GLASSES are there then (what 0), MOOD of all, together (1),");
        Run x = six();
        x.asks("run(0, 0)", 3).asks("run(1, 0)", 2).asks("run(39, 0)", 2).asks("run(40, 0)", 1);
        x.asks("run(0, 1)", 150).asks("run(1, 1)", 143).asks("run(39, 1)", 143).asks("run(40, 1)", 148);
        Run.of("guest(0, -99)", "guest(0, -99)", "guest(0, -99)", "guest(0, -99)", "guest(0, -99)", "guest(0, -99)")
                .asks("run(40, 1)", -594);
        new Run().asks("run(0, 0)", 0).asks("run(40, 0)", 0).asks("run(0, 1)", 0).asks("run(40, 1)", 0);
        Run ten = Run.of("guest(0, 0)");
        for (int g = 0; g < 10; g++) {
            ten.then("order(0, 0, 99)");
        }
        ten.asks("run(0, 0)", 10).asks("run(9, 0)", 10).asks("run(10, 0)", 0);

        Doc.says(16, "MOOD of GUEST what less 10 (10 ..), COLD of GUEST what less 20 (20 ..).");
        x.asks("run(0, 10)", 0).asks("run(1, 10)", -7).asks("run(39, 15)", 50).asks("run(40, 15)", 55);
        x.asks("run(40, 14)", 40).asks("run(0, 20)", 0).asks("run(0, 25)", 99).asks("run(40, 25)", 19).asks("run(40, 24)", 0)
                .asks("run(39, 24)", 2).asks("run(10, 21)", 0).asks("run(9, 21)", 2);
        Run.of("guest(0, 31)", "put(0, 1, 42)").asks("run(0, 10)", 31).asks("run(0, 20)", 42).asks("run(21, 20)", 0)
                .asks("run(20, 20)", 2);
    }

    private static void runRefuses() {
        Doc.says(16, "-100000: none such, n, what.");
        Run x = six();
        for (int what : new int[] {-1, 2, 9, 16, 19, 26, 29, 30, 35, LEAST, MOST}) {
            x.refuses("run(0, " + what + ")", -100000).refuses("run(40, " + what + ")", -100000);
        }
        for (int n : new int[] {-1, 41, LEAST, MOST}) {
            x.refuses("run(" + n + ", 0)", -100000).refuses("run(" + n + ", 1)", -100000).refuses("run(" + n + ", 10)", -100000)
                    .refuses("run(" + n + ", 20)", -100000).refuses("run(" + n + ", 2)", -100000);
        }
        Run y = EdgesOfGuests.house();
        y.asks("run(0, 14)", -99).refuses("run(0, 15)", -100000).asks("run(40, 24)", 0).refuses("run(0, 25)", -100000);
        new Run().refuses("run(0, 10)", -100000).refuses("run(0, 20)", -100000);
    }

    private static void goesOff() {
        Doc.says(17, "Behind how many DAYS (1 .. 60) a GLASS goes OFF; -1: not by then.");
        Run x = Run.under(ONE_MELTS).then("guest(0, 0)");
        int[] ices = {1, 2, 59, 60, 61, 99};
        int[] due = {1, 2, 59, 60, -1, -1};
        for (int g = 0; g < ices.length; g++) {
            x.does("order(0, 0, " + ices[g] + ")", g).asks("goesOff(" + g + ")", due[g]);
        }
        x.then("order(0, 0, 1)", "order(0, 0, 1)", "order(0, 0, 1)").does("order(0, 0, 60)", 9).asks("goesOff(9)", 60);
        Run.under("melts 0;feels 0;chills 0;").then("guest(0, 0)", "order(0, 0, 1)").asks("goesOff(0)", -1);

        Doc.says(17, "-6: no such GLASS.");
        for (int g : new int[] {-1, 7, 9, 10, LEAST, MOST}) {
            EdgesOfGuests.house().refuses("goesOff(" + g + ")", -6);
        }
    }

    private static void worst() {
        Doc.says(18, "Of n DAYS (1 .. 40) the one (from 1 on) by which MOOD of one is less by most,"
                + " of like ones the first (what 0; -1: by none it is less), by how much (1; 0).");
        Run x = Run.under(ONE_MELTS).then("guest(0, 50)", "guest(0, 50)", "order(0, -1, 1)", "order(0, -5, 39)",
                "order(0, -6, 40)", "order(0, -60, 41)");
        x.asks("worst(0, 1, 0)", 1).asks("worst(0, 1, 1)", 1).asks("worst(0, 38, 0)", 1).asks("worst(0, 39, 0)", 39)
                .asks("worst(0, 39, 1)", 5).asks("worst(0, 40, 0)", 40).asks("worst(0, 40, 1)", 6);
        x.asks("worst(1, 1, 0)", -1).asks("worst(1, 1, 1)", 0).asks("worst(1, 40, 0)", -1).asks("worst(1, 40, 1)", 0);
        // of like ones the first
        Run y = Run.under(ONE_MELTS).then("guest(0, 50)", "order(0, -5, 7)", "order(0, -5, 3)", "order(0, -5, 9)");
        y.asks("worst(0, 40, 0)", 3).asks("worst(0, 40, 1)", 5).asks("worst(0, 2, 0)", -1).asks("worst(0, 2, 1)", 0);
        // a day as a whole, and not below the bound
        Run z = Run.under(ONE_MELTS).then("guest(0, -90)", "order(0, -20, 2)", "order(0, 11, 4)", "order(0, -10, 5)",
                "order(0, 3, 6)", "order(0, -2, 6)");
        z.asks("worst(0, 40, 0)", 5).asks("worst(0, 40, 1)", 10).asks("worst(0, 4, 0)", 2).asks("worst(0, 4, 1)", 9);
        Run.under(ONE_MELTS).then("guest(0, -99)", "order(0, -20, 2)").asks("worst(0, 40, 0)", -1).asks("worst(0, 40, 1)", 0);
        Run.under(ONE_MELTS).then("guest(0, 0)", "order(0, 0, 1)", "order(0, 5, 2)").asks("worst(0, 40, 0)", -1)
                .asks("worst(0, 40, 1)", 0);
        // 198 at most
        Run.under("melts 99;feels weight;chills 0;").then("guest(30, 99)", "order(0, -99, 1)").asks("worst(0, 1, 1)", 198);
    }

    private static void worstOfSome() {
        Run x = EdgesOfGuests.house();
        Doc.says(18, "-5: none such;");
        for (int p : new int[] {-1, 5, 6, LEAST, MOST}) {
            x.refuses("worst(" + p + ", 1, 0)", -5).refuses("worst(" + p + ", 0, 2)", -5);
        }
        new Run().refuses("worst(0, 1, 0)", -5);

        Doc.says(18, "-7: n, what.");
        for (int n : new int[] {0, 41, -1, LEAST, MOST}) {
            x.refuses("worst(0, " + n + ", 0)", -7).refuses("worst(0, " + n + ", 1)", -7);
        }
        for (int what : new int[] {-1, 2, LEAST, MOST}) {
            x.refuses("worst(0, 1, " + what + ")", -7).refuses("worst(4, 40, " + what + ")", -7);
        }
    }

    private static void falls() {
        Doc.says(19, "GUESTS (bits) whose MOOD is below so much (-99 .. 99) now, or behind any of n DAYS (0 .. 40).");
        Run x = Run.under(ONE_MELTS).then("guest(0, 9)", "guest(0, 10)", "guest(0, 11)", "guest(0, 50)", "guest(0, 50)",
                "guest(0, -99)");
        x.then("order(3, -41, 40)", "order(4, -41, 41)", "order(2, -11, 5)", "order(2, 11, 6)");
        x.asks("falls(0, 9)", 32).asks("falls(0, 10)", 33).asks("falls(0, 11)", 35).asks("falls(0, 12)", 39);
        x.asks("falls(4, 10)", 33).asks("falls(5, 10)", 37).asks("falls(6, 10)", 37);
        x.asks("falls(39, 10)", 37).asks("falls(40, 10)", 45).asks("falls(40, 9)", 36).asks("falls(40, 0)", 32);
        x.asks("falls(0, -99)", 0).asks("falls(40, -99)", 0).asks("falls(0, -98)", 32).asks("falls(0, 99)", 63);
        Run.of("guest(0, 99)", "guest(0, 98)").asks("falls(40, 99)", 2);
        // now, though it is better behind each day
        Run.of("guest(0, -5)", "order(0, 50, 1)").asks("falls(0, 0)", 1).asks("falls(1, 0)", 1).asks("falls(40, 0)", 1);
        // behind a day, not in its midst
        Run.of("guest(0, 0)", "order(0, -50, 1)", "order(0, 50, 1)").asks("falls(1, 0)", 0).asks("falls(40, 0)", 0);
        new Run().asks("falls(0, 99)", 0).asks("falls(40, 99)", 0);

        Doc.says(19, "BAD.");
        Run y = EdgesOfGuests.house();
        for (int n : new int[] {-1, 41, LEAST, MOST}) {
            y.refuses("falls(" + n + ", 0)", -2);
        }
        for (int below : new int[] {-100, 100, LEAST, MOST}) {
            y.refuses("falls(0, " + below + ")", -2).refuses("falls(41, " + below + ")", -2);
        }
    }
}
