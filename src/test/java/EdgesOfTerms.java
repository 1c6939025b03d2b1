/** The edges that the document's terms name: days, guests, glasses, kinds, orders, lots, images, sheets. */
final class EdgesOfTerms {
    private static final String ALL_OFF = "melts 99;feels weight;chills 0;";
    private static final String NOTHING = "melts 0;feels 0;chills 0;";

    private EdgesOfTerms() {
    }

    static void all() {
        days();
        guests();
        glasses();
        guestKind();
        father();
        gentleman();
        bride();
        lady();
        waiter();
        kindsAbove();
        order();
        dayMelts();
        dayIsFelt();
        dayEnds();
        ordersByLots();
        lots();
        image();
        sheets();
    }

    private static void days() {
        Doc.says(Doc.TERMS, "999; 0 at first;");
        new Run().asks("count(2)", 0).does("dawn(999)", 0).asks("count(2)", 999).does("dawn(0)", 999)
                .refuses("dawn(-1)", -2).refuses("dawn(1000)", -2);
        Run.of("dawn(998)").does("day()", 0).asks("count(2)", 999).refuses("day()", -3);

        Doc.says(Doc.TERMS, "in thought it may pass 999).");
        Run x = Run.under("melts 99*(1000<day);feels 1000-day;chills 0;")
                .then("guest(0, 0)", "order(0, 0, 99)", "dawn(999)");
        x.asks("run(2, 0)", 1).asks("run(3, 0)", 0).asks("run(3, 1)", -1).asks("run(3, 10)", -1);
        x.asks("goesOff(0)", 3).asks("told(0, 5)", 0);
        x.asks("worst(0, 2, 0)", -1).asks("worst(0, 3, 0)", 3).asks("worst(0, 40, 1)", 1);
        x.asks("falls(2, 0)", 0).asks("falls(3, 0)", 1);
        x.asks("again(1, 3, 1)", -1).asks("spilt(2, 0)", -1).asks("spilt(3, 0)", 0).asks("spilt(3, 1)", 0);
        x.asks("round(99, 3, 0)", 0).asks("round(99, 3, 1)", -1);
        x.does("film(0, 0, 3)", 3).asks("judge(0, 0)", -1).asks("kinds(0, 0, 0)", 3).asks("kinds(0, 0, 1)", 1023);
        x.asks("states(0, 0, 0, 1)", 0).asks("who(0)", 1).asks("laws(0, 0)", 2).asks("count(2)", 999);
        x.does("cell(0, 2, 0)", 1).asks("judge(0, 0)", 2);
        x.refuses("day()", -3);
        Run lots = Run.under("melts 99*(1005<day);feels 1;chills 0;");
        for (int p = 0; p < 6; p++) {
            lots.then("guest(0, 0)");
        }
        lots.does("dawn(998)", 0).asks("drawn(0, 0)", 0).asks("drawn(0, 1)", 8);
        lots.does("dawn(999)", 998).asks("drawn(0, 0)", 8).asks("drawn(0, 1)", 0).asks("odds(0, 40, 8, 0)", 1);
        // 1001 is 143 times 7
        Run.under(NOTHING).then("guest(30, 0)", "order(0, 0, 99)", "dawn(999)").asks("goesOff(0)", 3);
    }

    private static void guests() {
        Doc.says(Doc.TERMS, "GUESTS are numbered from 0 on, 6 at most: of a KIND, with MORE (0 .. 9);");
        Run x = new Run();
        for (int p = 0; p < 6; p++) {
            x.refuses("told(" + p + ", 0)", -5000).does("guest(" + (10 * p) + ", 0)", p).asks("told(" + p + ", 2)", p)
                    .asks("told(" + p + ", 3)", 0);
        }
        x.refuses("guest(0, 0)", -4).refuses("told(6, 0)", -5000).refuses("told(-1, 0)", -5000).asks("count(0)", 6);
        Run y = new Run();
        for (int p = 0; p < 6; p++) {
            y.does("guest(" + (10 * p + 9) + ", 0)", p).asks("told(" + p + ", 2)", p).asks("told(" + p + ", 3)", 9);
        }

        Doc.says(Doc.TERMS, "MOOD (-99 .. 99), COLD (0 .. 99; 0 as one comes).");
        Run z = Run.of("guest(0, -99)", "guest(0, 99)");
        z.refuses("guest(0, -100)", -2).refuses("guest(0, 100)", -2).asks("told(0, 0)", -99).asks("told(1, 0)", 99);
        z.asks("told(0, 1)", 0).does("put(0, 1, 99)", 0).refuses("put(0, 1, 100)", -7000).refuses("put(0, 1, -1)", -7000);
        z.asks("told(0, 1)", 99).asks("told(1, 1)", 0);
        // one who comes where a cold one was is not cold
        Run.of("image()", "guest(0, 0)", "put(0, 1, 77)", "back()").does("guest(0, 0)", 0).asks("told(0, 1)", 0);
    }

    private static void glasses() {
        Doc.says(Doc.TERMS, "GLASSES 0 .. 9, there or not (none at first):");
        Run x = new Run();
        for (int g = 0; g < 10; g++) {
            x.refuses("glass(" + g + ", 0)", -6000);
        }
        x.then("guest(0, 0)");
        for (int g = 0; g < 10; g++) {
            x.does("order(0, " + g + ", 50)", g).asks("glass(" + g + ", 1)", g);
        }
        x.refuses("order(0, 0, 50)", -4).refuses("glass(10, 0)", -6000).refuses("glass(-1, 0)", -6000);
        x.does("spill(9)", 9).refuses("glass(9, 0)", -6000).does("order(0, 7, 1)", 9);

        Doc.says(Doc.TERMS, "each of a GUEST, of a WEIGHT (-99 bad .. 99 good), with ICE (1 .. 99).");
        Run y = Run.of("guest(0, 0)", "guest(0, 0)", "guest(0, 0)", "guest(0, 0)", "guest(0, 0)", "guest(0, 0)");
        y.does("order(0, -99, 1)", 0).does("order(5, 99, 99)", 1);
        y.asks("glass(0, 0)", 0).asks("glass(0, 1)", -99).asks("glass(0, 2)", 1);
        y.asks("glass(1, 0)", 5).asks("glass(1, 1)", 99).asks("glass(1, 2)", 99);
        y.refuses("order(0, -100, 1)", -7).refuses("order(0, 100, 1)", -7);
        y.refuses("order(0, 0, 0)", -7).refuses("order(0, 0, 100)", -7).refuses("order(6, 0, 1)", -5);
        y.does("iced(1, 99)", 99);
    }

    /** One guest with a glass of WEIGHT 0, by a text that says so. */
    private static Run one(int kindMore, int melts, int feels, int chills) {
        return Run.under("melts " + melts + ";feels " + feels + ";chills " + chills + ";")
                .then("guest(" + kindMore + ", 0)", "order(0, 0, 50)");
    }

    private static void three(int kindMore, int cold, int[] said, int... due) {
        Run x = one(kindMore, said[0], said[1], said[2]).then("put(0, 1, " + cold + ")");
        for (int part = 0; part < 3; part++) {
            x.asks("glass(0, " + (3 + part) + ")", due[part]);
        }
    }

    private static int[] said(int melts, int feels, int chills) {
        return new int[] {melts, feels, chills};
    }

    private static void guestKind() {
        Doc.says(Doc.TERMS, "KINDS (of whose GLASS it is): how much MELTS of it in a DAY, the text saying so much;"
                + " how one FEELS it, the text saying so; how much it CHILLS, the text saying so much."
                + " 0 GUEST: that; that; that.");
        three(0, 0, said(0, 0, 0), 0, 0, 0);
        three(9, 99, said(99, 99, 99), 99, 99, 99);
        three(9, 99, said(1, -99, 1), 1, -99, 1);
        Run.under("melts 7;feels 8;chills 9;").then("guest(9, 0)", "guest(29, 0)", "order(1, 0, 50)", "order(0, 0, 50)")
                .asks("glass(0, 3)", 16).asks("glass(0, 4)", 4).asks("glass(1, 3)", 7).asks("glass(1, 4)", 8);
    }

    private static void father() {
        Doc.says(Doc.TERMS, "1 FATHER (a GUEST): CHILLS half (cut);");
        three(19, 0, said(0, 0, 0), 0, 0, 0);
        three(19, 0, said(0, 0, 1), 0, 0, 0);
        three(19, 0, said(0, 0, 2), 0, 0, 1);
        three(19, 99, said(0, 0, 3), 0, 0, 1);
        three(19, 0, said(0, 0, 99), 0, 0, 49);

        Doc.says(Doc.TERMS, "FEELS MORE more, if the text says above 0.");
        three(19, 0, said(10, -99, 0), 10, -99, 0);
        three(19, 0, said(10, -1, 0), 10, -1, 0);
        three(19, 0, said(10, 0, 0), 10, 0, 0);
        three(19, 99, said(10, 1, 0), 10, 10, 0);
        three(19, 0, said(10, 99, 0), 10, 108, 0);
        three(10, 0, said(10, 1, 0), 10, 1, 0);
        one(19, 99, 99, 0).then("put(0, 0, -99)").does("day()", 1).asks("told(0, 0)", 9);
    }

    private static void gentleman() {
        Doc.says(Doc.TERMS, "2 GENTLEMAN (a GUEST): FEELS 0, if COLD is above 50, else half (cut toward 0);");
        three(20, 50, said(0, 99, 0), 0, 49, 0);
        three(20, 51, said(0, 99, 0), 0, 0, 0);
        three(20, 50, said(0, -99, 0), 0, -49, 0);
        three(20, 51, said(0, -99, 0), 0, 0, 0);
        three(20, 99, said(0, 2, 0), 0, 0, 0);
        int[] halves = {-3, -1, -2, -1, -1, 0, 0, 0, 1, 0, 2, 1, 3, 1};
        for (int i = 0; i < halves.length; i += 2) {
            three(29, 0, said(0, halves[i], 0), 9, halves[i + 1], 0);
        }

        Doc.says(Doc.TERMS, "MELTS MORE more.");
        three(20, 0, said(0, 0, 9), 0, 0, 9);
        three(21, 99, said(0, 0, 9), 1, 0, 9);
        three(29, 0, said(99, 0, 9), 108, 0, 9);
        one(29, 99, 7, 0).then("iced(0, 99)").does("day()", 1).asks("told(0, 0)", 3);
    }

    private static void bride() {
        Doc.says(Doc.TERMS, "3 BRIDE (a FATHER): FEELS twice a FATHER's;");
        three(39, 0, said(10, -99, 7), 10, -198, 3);
        three(39, 0, said(10, -1, 7), 10, -2, 3);
        three(39, 0, said(10, 0, 7), 10, 0, 3);
        three(39, 0, said(10, 1, 7), 10, 20, 3);
        three(39, 0, said(10, 99, 7), 10, 216, 3);
        one(39, 99, 99, 0).then("put(0, 0, -99)").does("day()", 1).asks("told(0, 0)", 99);
        one(39, 99, -99, 0).then("put(0, 0, 99)").does("day()", 1).asks("told(0, 0)", -99);

        Doc.says(Doc.TERMS, "MELTS 99, if DAY modulo 7 is MORE, else as a FATHER.");
        int[][] days = {{0, 0, 99}, {0, 1, 4}, {0, 6, 4}, {0, 7, 99}, {0, 994, 99}, {0, 999, 4}, {5, 999, 99}, {6, 5, 4},
            {6, 6, 99}, {6, 7, 4}, {6, 13, 99}, {7, 0, 4}, {7, 7, 4}, {8, 1, 4}, {8, 8, 4}, {9, 9, 4}, {9, 2, 4}};
        for (int[] d : days) {
            one(30 + d[0], 4, 0, 0).then("dawn(" + d[1] + ")").asks("glass(0, 3)", d[2]);
        }
        one(30, 0, 5, 0).then("iced(0, 99)").does("day()", 1).asks("told(0, 0)", 10);
        one(31, 0, 5, 0).does("day()", 0).does("day()", 1);
    }

    private static void lady() {
        Doc.says(Doc.TERMS, "4 LADY (a GENTLEMAN): MELTS a third (cut) of a GENTLEMAN's, if COLD is above 20,"
                + " else as a GENTLEMAN;");
        three(47, 20, said(10, 0, 0), 17, 0, 7);
        three(47, 21, said(10, 0, 0), 5, 0, 7);
        three(47, 0, said(10, 0, 0), 17, 0, 7);
        three(42, 21, said(0, 0, 0), 0, 0, 2);
        three(43, 21, said(0, 0, 0), 1, 0, 3);
        three(45, 99, said(0, 0, 0), 1, 0, 5);
        three(46, 99, said(0, 0, 0), 2, 0, 6);
        three(49, 21, said(99, 0, 0), 36, 0, 9);
        three(49, 20, said(99, 0, 0), 108, 0, 9);

        Doc.says(Doc.TERMS, "CHILLS MORE more.");
        three(40, 0, said(0, 0, 0), 0, 0, 0);
        three(49, 0, said(0, 0, 99), 9, 0, 108);
        one(49, 0, 0, 99).asks("told(0, 1)", 99);
        one(49, 0, 0, 89).asks("told(0, 1)", 98);
    }

    private static void waiter() {
        Doc.says(Doc.TERMS, "5 WAITER (a GUEST): FEELS 0 less what the text says; MELTS MORE.");
        three(50, 0, said(99, 99, 99), 0, -99, 99);
        three(59, 99, said(0, -99, 0), 9, 99, 0);
        three(51, 60, said(99, 0, 5), 1, 0, 5);
        three(51, 60, said(99, 1, 5), 1, -1, 5);
        one(50, 99, 0, 0).asks("goesOff(0)", -1);
        one(51, 99, 0, 0).asks("goesOff(0)", 50);
    }

    private static void kindsAbove() {
        Doc.says(Doc.TERMS, "(Whatever isn't told is as of the KIND above. MELTS, CHILLS 0 at least.)");
        three(19, 99, said(40, 0, 0), 40, 0, 0);
        three(29, 99, said(0, 0, 40), 9, 0, 40);
        three(37, 99, said(40, 0, 40), 40, 0, 20);
        three(49, 51, said(0, 40, 0), 3, 0, 9);
        three(49, 50, said(0, -41, 0), 3, -20, 9);
        three(59, 99, said(40, 0, 40), 9, 0, 40);
        three(0, 0, said(-1, 0, -1), 0, 0, 0);
        three(19, 0, said(-99, 0, -99), 0, 0, 0);
        three(22, 0, said(-99, 0, -99), 2, 0, 0);
        three(42, 0, said(-99, 0, -99), 2, 0, 2);
        three(52, 0, said(-99, 0, -99), 2, 0, 0);
        one(0, -1, 0, -1).then("put(0, 1, 50)", "order(0, 0, 9)").asks("told(0, 1)", 50).does("day()", 0)
                .asks("glass(1, 2)", 9);
    }

    private static void order() {
        Doc.says(Doc.TERMS, "An ORDER of one: the first GLASS that isn't there is, then, of one, of a WEIGHT, with ICE;");
        Run x = Run.under(NOTHING).then("guest(0, 0)", "guest(0, 0)");
        for (int g = 0; g < 10; g++) {
            x.then("order(0, 1, 1)");
        }
        x.then("spill(9)", "spill(5)", "spill(0)");
        x.does("order(1, -7, 8)", 0).does("order(1, 7, 9)", 5).does("order(1, 8, 99)", 9).refuses("order(1, 0, 1)", -4);
        x.asks("glass(0, 0)", 1).asks("glass(0, 1)", -7).asks("glass(0, 2)", 8).asks("glass(5, 1)", 7).asks("glass(9, 2)", 99);

        Doc.says(Doc.TERMS, "COLD is more by what it CHILLS (told then, ahead of it; 99 at most).");
        Run y = Run.under("melts 0;feels 0;chills cold+1;").then("guest(0, 0)", "guest(0, 0)");
        int[] colds = {1, 3, 7, 15, 31, 63, 99, 99};
        for (int i = 0; i < colds.length; i++) {
            y.does("order(0, 0, 1)", i).asks("told(0, 1)", colds[i]);
        }
        y.asks("told(1, 1)", 0);
        Run z = Run.under("melts 0;feels 0;chills ice*(weight<0)+100*(mood=9);").then("guest(0, 0)", "put(0, 1, 97)");
        z.does("order(0, 0, 99)", 0).asks("told(0, 1)", 97).does("order(0, -1, 1)", 1).asks("told(0, 1)", 98);
        z.does("order(0, -1, 1)", 2).asks("told(0, 1)", 99).does("order(0, -1, 1)", 3).asks("told(0, 1)", 99);
        z.then("put(0, 1, 98)").does("order(0, -1, 2)", 4).asks("told(0, 1)", 99);
        z.then("put(0, 1, 0)", "put(0, 0, 9)").does("order(0, 0, 1)", 5).asks("told(0, 1)", 99);
    }

    private static void dayMelts() {
        Doc.says(Doc.TERMS, "A DAY: GLASS by GLASS, by numbers, of those that are there:"
                + " ICE is less by what MELTS (0 at least);");
        Run x = Run.of("guest(0, 0)", "order(0, 1, 9)", "order(0, 1, 10)", "order(0, 1, 11)", "order(0, 1, 99)");
        x.does("day()", 3).asks("glass(2, 2)", 1).asks("glass(3, 2)", 89).does("day()", 4).asks("glass(3, 2)", 79);
        Run.under("melts 99;feels ice-5;chills 0;").then("guest(0, 0)", "order(0, 0, 1)").does("day()", 1)
                .asks("told(0, 0)", -5);
        // by numbers, not in the order in which they came
        Run y = Run.under("melts 99;feels weight*(mood=0)+1;chills 0;").then("guest(0, 0)", "order(0, 9, 1)",
                "order(0, 20, 1)", "spill(0)", "order(0, 40, 1)");
        y.does("day()", 3).asks("told(0, 0)", 42);
        Run.of("guest(0, 0)", "order(0, 1, 5)", "order(0, 2, 5)", "spill(0)").does("day()", 2).asks("told(0, 0)", 2);
        new Run().does("day()", 0).asks("count(2)", 1);
    }

    private static void dayIsFelt() {
        Doc.says(Doc.TERMS, "is it 0, the GLASS goes OFF: MOOD is more by how one FEELS it (-99 .. 99, else the bound;"
                + " told then, ICE being 0), and it isn't there any more.");
        int[][] moods = {{98, 1, 99}, {98, 2, 99}, {99, 1, 99}, {99, 0, 99}, {-98, -1, -99}, {-98, -2, -99}, {-99, -1, -99},
            {-99, 99, 0}, {99, -99, 0}, {0, 0, 0}, {97, 1, 98}, {-97, -1, -98}};
        for (int[] m : moods) {
            Run.under(ALL_OFF).then("guest(0, " + m[0] + ")", "order(0, " + m[1] + ", 99)").does("day()", 1)
                    .asks("told(0, 0)", m[2]).refuses("glass(0, 0)", -6000).asks("count(1)", 0).asks("told(0, 4)", 0);
        }
        Run.under(ALL_OFF).then("guest(0, 90)", "order(0, 50, 1)", "order(0, -50, 1)").does("day()", 3).asks("told(0, 0)", 49);
        Run.under(ALL_OFF).then("guest(0, -90)", "order(0, -50, 1)", "order(0, 50, 1)").does("day()", 3).asks("told(0, 0)", -49);
        Run.under("melts 9;feels 40-ice;chills 0;").then("guest(0, 0)", "order(0, 0, 9)").asks("glass(0, 4)", 31)
                .does("day()", 1).asks("told(0, 0)", 40);

        Doc.says(Doc.TERMS, "(All told as it is then.)");
        Run.under("melts mood;feels 50;chills 0;").then("guest(0, 1)", "order(0, 0, 1)", "order(0, 0, 51)", "order(0, 0, 99)")
                .does("day()", 7).asks("told(0, 0)", 99);
        Run.under("melts mood;feels 49;chills 0;").then("guest(0, 1)", "order(0, 0, 1)", "order(0, 0, 51)", "order(0, 0, 99)")
                .does("day()", 1).asks("glass(1, 2)", 1).asks("glass(2, 2)", 49);
    }

    private static void dayEnds() {
        Doc.says(Doc.TERMS, "Then COLD of all is 2 less (0 at least).");
        Run x = new Run();
        int[] colds = {0, 1, 2, 3, 52, 99};
        for (int p = 0; p < 6; p++) {
            x.then("guest(0, 0)", "put(" + p + ", 1, " + colds[p] + ")");
        }
        x.does("day()", 0);
        int[] then = {0, 0, 0, 1, 50, 97};
        for (int p = 0; p < 6; p++) {
            x.asks("told(" + p + ", 1)", then[p]);
        }
        Run y = Run.under(ALL_OFF).then("guest(20, 0)", "order(0, 40, 1)", "put(0, 1, 52)");
        y.asks("run(1, 10)", 0).then("put(0, 1, 51)").asks("run(1, 10)", 0).then("put(0, 1, 50)").asks("run(1, 10)", 20);
        y.then("put(0, 1, 52)", "day()", "order(0, 40, 1)").does("day()", 1).asks("told(0, 0)", 20);

        Doc.says(Doc.TERMS, "At last DAY is 1 more.");
        Run.under("melts 99;feels day;chills 0;").then("dawn(5)", "guest(0, 0)", "order(0, 0, 1)").does("day()", 1)
                .asks("told(0, 0)", 5).asks("count(2)", 6);
        Run.of("dawn(998)").does("day()", 0).asks("count(2)", 999).refuses("day()", -3);
    }

    private static Run full(Run x) {
        return x.then("guest(0, 0)", "guest(0, 0)", "guest(0, 0)", "guest(0, 0)", "guest(0, 0)", "guest(0, 0)");
    }

    /** The orders of seed 0: 1 -88 79, 1 -85 87, 5 63 87, 5 15 48, 3 -13 70, 3 -45 24, 5 61 43, 5 97 75. */
    private static void ordersByLots() {
        Doc.says(Doc.TERMS, "ORDERS by a SEED (0 .. 99999), in thought: eight DAYS, ahead of each three LOTS:"
                + " an ORDER of GUEST LOT modulo 6, of WEIGHT (the next LOT modulo 199) less 99,"
                + " with ICE 1 and the last LOT modulo 99;");
        full(Run.under(ALL_OFF)).asks("drawn(0, 0)", -99 - 58 + 99).asks("drawn(0, 1)", 0);
        // of one WEIGHT, of one ICE: which of the eight are so
        int[][] weights = {{0, -88, 1}, {0, 97, 1}, {238, -99, 1}, {19, 99, 1}, {0, -99, 0}, {0, 99, 0}};
        for (int[] w : weights) {
            full(Run.under("melts 99;feels weight=" + w[1] + ";chills 0;")).asks("drawn(" + w[0] + ", 0)", w[2]);
        }
        int[][] ices = {{0, 79, 1}, {0, 87, 2}, {0, 24, 1}, {54, 1, 1}, {22, 99, 1}, {0, 1, 0}, {0, 99, 0}};
        for (int[] i : ices) {
            full(Run.under("melts 99*(ice=" + i[1] + ");feels 1;chills 0;")).asks("drawn(" + i[0] + ", 0)", i[2])
                    .asks("drawn(" + i[0] + ", 1)", 8 - i[2]);
        }
        full(Run.under("melts 99*(7<day);feels 1;chills 0;")).asks("drawn(0, 1)", 8).asks("drawn(0, 0)", 0);
        full(Run.under("melts 99*(6<day);feels 1;chills 0;")).asks("drawn(0, 1)", 0).asks("drawn(0, 0)", 8);
        // an ORDER is ahead of its DAY, and chills
        full(Run.under("melts 99;feels cold;chills 7;")).asks("drawn(0, 0)", 7 + 12 + 7 + 12 + 7 + 12 + 13 + 18);
        full(new Run()).refuses("drawn(-1, 0)", -1000).refuses("drawn(100000, 0)", -1000).asks("drawn(99999, 1)", 2);

        Doc.says(Doc.TERMS, "if there is no such GUEST, no room: none.");
        new Run().asks("drawn(0, 0)", 0).asks("drawn(0, 1)", 0);
        Run.under(NOTHING).then("guest(0, 0)").asks("drawn(0, 1)", 0).then("guest(0, 0)").asks("drawn(0, 1)", 2)
                .then("guest(0, 0)", "guest(0, 0)").asks("drawn(0, 1)", 4).then("guest(0, 0)").asks("drawn(0, 1)", 4)
                .then("guest(0, 0)").asks("drawn(0, 1)", 8);
        Run x = full(Run.under("melts 0;feels 0;chills 1;")).then("order(0, 0, 1)", "order(0, 0, 1)").asks("drawn(0, 1)", 10);
        x.then("order(0, 0, 1)").asks("drawn(0, 1)", 10);
        for (int g = 3; g < 10; g++) {
            x.then("order(0, 0, 1)");
        }
        x.asks("drawn(0, 1)", 10).asks("drawn(0, 0)", 0);
        // what has no room chills nobody: by day 7 only the first two are felt, and the last six aren't there
        Run y = full(Run.under("melts 99*(6<day);feels 10+cold;chills 99*(day<9);"));
        for (int g = 0; g < 10; g++) {
            y.then("order(0, 0, 1)");
        }
        y.then("put(0, 1, 0)").asks("drawn(0, 0)", 99).asks("drawn(0, 1)", 0);
    }

    private static void lots() {
        Doc.says(Doc.TERMS, "LOTS: the first is (SEED and 1) times 48271 modulo 2147483647, each further one the last"
                + " times 48271 modulo 2147483647.");
        // 99999: 2 22 46, 3 -55 10, 3 -92 14, 3 9 71, 2 -65 9, 3 -41 20, 5 74 15, 3 -29 89
        Run x = full(Run.under(ALL_OFF));
        x.asks("drawn(99999, 0)", -43 - 99 + 74);
        // 1: 2 -77 57, 1 -93 74, 3 26 74, 3 -70 94, 5 51 39, 5 -13 46, 3 0 85, 4 72 49
        x.asks("drawn(1, 0)", -77 - 93 - 44 + 38 + 72);
        // 7: 2 -11 27, 1 58 94, 0 -63 93, 5 17 76, 2 59 54, 2 -20 79, 5 32 38, 1 -78 93
        x.asks("drawn(7, 0)", 28 - 20 - 63 + 49);
    }

    private static void image() {
        Doc.says(Doc.TERMS, "AN IMAGE keeps MOOD, COLD of all, GLASSES (whose, WEIGHT, ICE), how many GUESTS there are,"
                + " DAY, THE LAW.");
        Run x = new Run().text(NOTHING, 1).then("guest(12, 3)", "guest(34, 5)", "order(0, -6, 7)", "order(1, 8, 9)",
                "put(0, 1, 10)", "put(1, 1, 11)", "dawn(13)", "sheet(0, 0, 2)", "image()");
        x.then("put(0, 0, 1)", "put(1, 0, 2)", "put(0, 1, 3)", "put(1, 1, 4)", "spill(0)", "iced(1, 50)",
                "order(1, 30, 31)", "order(1, 30, 31)", "guest(0, 0)", "dawn(500)", "force(1)", "cell(0, 1, 77)",
                "feed(2, 1, 1, 0, 0, 0)").text("?", -100).feed("??");
        x.does("back()", 2).asks("count(0)", 2).asks("count(1)", 2).asks("count(2)", 13).asks("count(4)", 0);
        x.asks("told(0, 0)", 3).asks("told(1, 0)", 5).asks("told(0, 1)", 10).asks("told(1, 1)", 11);
        x.asks("glass(0, 0)", 0).asks("glass(0, 1)", -6).asks("glass(0, 2)", 7);
        x.asks("glass(1, 0)", 1).asks("glass(1, 1)", 8).asks("glass(1, 2)", 9).refuses("glass(2, 0)", -6000);
        x.asks("told(0, 2)", 1).asks("told(0, 3)", 2).asks("told(1, 2)", 3).asks("told(1, 3)", 4);
        // nothing else: texts, the tape, sheets stay
        x.asks("count(3)", 2).asks("count(5)", 2).does("put(0, 0, 77)", 3).does("sheet(1, 0, 1)", 1)
                .does("copy(0, 1, 1, 0, 1)", 1).asks("judge(1, 0)", 0).does("spill(0)", -6).asks("judge(1, 0)", -1);
    }

    private static void sheets() {
        Doc.says(Doc.TERMS, "SHEETS 0 .. 3 are rows of numbers, or missing (as all are at first):"
                + " of sort 0 bytes, 1 shorts, 2 ints, 40 at most.");
        Run x = new Run();
        for (int s = 0; s < 4; s++) {
            x.refuses("cell(" + s + ", 0, 0)", -11).refuses("who(" + s + ")", -11);
        }
        x.refuses("cell(-1, 0, 0)", -2).refuses("cell(4, 0, 0)", -2).refuses("who(-1)", -2).refuses("who(4)", -2);
        for (int sort = 0; sort < 3; sort++) {
            x.does("sheet(" + sort + ", " + sort + ", 40)", 1).does("cell(" + sort + ", 39, 1)", 1)
                    .refuses("cell(" + sort + ", 40, 1)", -12).refuses("sheet(" + sort + ", " + sort + ", 41)", -2);
            for (int other = 0; other < 3; other++) {
                x.asks("guestsBy(" + sort + ", " + other + ", 0, 0)", other == sort ? 0 : -13);
            }
        }
        x.refuses("sheet(3, 3, 1)", -2).refuses("sheet(3, -2, 1)", -2).refuses("who(3)", -11);
    }
}
