/** The edges of promises 35 to 39: the host; and refusals, wherever they are told. */
final class EdgesOfHost {
    private static final int LEAST = Integer.MIN_VALUE, MOST = Integer.MAX_VALUE;

    private EdgesOfHost() {
    }

    static void all() {
        sheet();
        sheetRefuses();
        cell();
        cellRefuses();
        copy();
        copyRefuses();
        guestsBy();
        guestsByRefuses();
        taken();
        takenRefuses();
        refusals();
        hostsRefusals();
        questions();
    }

    private static void sheet() {
        Doc.says(35, "A SHEET becomes a row of n of a sort, all 0, or missing (sort -1: n does not matter): 1.");
        for (int s : new int[] {0, 3}) {
            for (int sort = 0; sort < 3; sort++) {
                String head = "sheet(" + s + ", " + sort + ", ";
                Run x = Run.of("guest(0, 0)").does(head + "0)", 1).asks("judge(" + s + ", 0)", -1).refuses("cell(" + s + ", 0, 1)", -12);
                x.does(head + "1)", 1).asks("judge(" + s + ", 0)", -1).does("cell(" + s + ", 0, 5)", 1).asks("judge(" + s + ", 0)", 0);
                x.does(head + "40)", 1).does("cell(" + s + ", 39, 1)", 1).does("cell(" + s + ", 19, 1)", 1);
                // anew, all 0, whatever stood there
                x.does(head + "20)", 1).asks("judge(" + s + ", 0)", -1).refuses("cell(" + s + ", 20, 1)", -12);
                x.does(head + "20)", 1).asks("guestsBy(" + s + ", " + sort + ", 0, 0)", 0);
                for (int n : new int[] {0, -1, 41, LEAST, MOST}) {
                    x.does("sheet(" + s + ", -1, " + n + ")", 1).refuses("cell(" + s + ", 0, 0)", -11).does(head + "3)", 1);
                }
            }
        }
        Run.of("sheet(0, 2, 3)").does("sheet(0, 0, 3)", 1).refuses("guestsBy(0, 2, 0, 0)", -13).asks("guestsBy(0, 0, 0, 0)", 0);
    }

    private static void sheetRefuses() {
        Run x = EdgesOfGuests.house();
        Doc.says(35, "BAD: SHEET, sort, n above 40;");
        for (int s : new int[] {-1, 4, LEAST, MOST}) {
            x.refuses("sheet(" + s + ", 0, 1)", -2).refuses("sheet(" + s + ", -1, 0)", -2).refuses("sheet(" + s + ", 0, -1)", -2);
        }
        for (int sort : new int[] {-2, 3, LEAST, MOST}) {
            x.refuses("sheet(1, " + sort + ", 1)", -2).refuses("sheet(1, " + sort + ", -1)", -2).refuses("sheet(1, " + sort + ", 41)", -2);
        }
        for (int n : new int[] {41, 42, MOST}) {
            x.refuses("sheet(1, 0, " + n + ")", -2).refuses("sheet(1, 2, " + n + ")", -2).refuses("sheet(3, 1, " + n + ")", -2);
        }
        Doc.says(35, "-14.");
        for (int n : new int[] {-1, -41, LEAST}) {
            for (int sort = 0; sort < 3; sort++) {
                x.refuses("sheet(1, " + sort + ", " + n + ")", -14).refuses("sheet(3, " + sort + ", " + n + ")", -14);
            }
        }
    }

    /** What a sheet's number then is, seen as the mood that one would have to be in; -1000: none of -99 .. 99. */
    private static void cell() {
        Doc.says(36, "Number i of a SHEET becomes v (of bytes, shorts its lowest 8, 16 bits): 1.");
        int[] v = {0, 99, -99, 100, 127, 128, 255, 256, 355, -157, -256, 32767, 32768, 65535, 65536, 65635, -65635, LEAST, MOST};
        int[] bytes = {0, 99, -99, -1000, -1000, -1000, -1, 0, 99, 99, 0, -1, 0, -1, 0, 99, -99, 0, -1};
        int[] shorts = {0, 99, -99, -1000, -1000, -1000, -1000, -1000, -1000, -1000, -1000, -1000, -1000, -1, 0, 99, -99, 0, -1};
        int[] ints = {0, 99, -99, -1000, -1000, -1000, -1000, -1000, -1000, -1000, -1000, -1000, -1000, -1000, -1000, -1000, -1000, -1000, -1000};
        int[][] due = {bytes, shorts, ints};
        for (int sort = 0; sort < 3; sort++) {
            Run x = Run.of("guest(0, 0)", "sheet(3, " + sort + ", 1)");
            for (int i = 0; i < v.length; i++) {
                x.does("cell(3, 0, " + v[i] + ")", 1).asks("states(3, 0, 0, 1)", due[sort][i]);
            }
        }
        Run y = Run.of("guest(0, 0)", "sheet(0, 0, 20)").does("cell(0, 0, 1)", 1).asks("judge(0, 0)", 0).does("cell(0, 0, 0)", 1)
                .does("cell(0, 19, 1)", 1).asks("judge(0, 0)", 19);
        y.does("sheet(0, 0, 40)", 1).does("cell(0, 39, 1)", 1).refuses("cell(0, 40, 1)", -12);
    }

    private static void cellRefuses() {
        Run x = EdgesOfGuests.house();
        Doc.says(36, "BAD: SHEET;");
        for (int s : new int[] {-1, 4, LEAST, MOST}) {
            x.refuses("cell(" + s + ", 0, 0)", -2).refuses("cell(" + s + ", -1, 0)", -2);
        }
        Doc.says(36, "-11;");
        for (int i : new int[] {0, -1, 40}) {
            x.refuses("cell(3, " + i + ", 0)", -11);
        }
        Doc.says(36, "-12.");
        for (int i : new int[] {-1, 21, 40, LEAST, MOST}) {
            x.refuses("cell(0, " + i + ", 7)", -12).refuses("cell(1, " + i + ", 7)", -12).refuses("cell(2, " + i + ", 7)", -12);
        }
        x.refuses("cell(0, 9, 7)", -12).refuses("cell(1, 5, 7)", -12).does("cell(0, 8, 7)", 1).does("cell(1, 4, 7)", 1).does("cell(2, 20, 7)", 1);
    }

    /** Rows 1 2 3 4 5 and 6 7 8 of bytes, and 0 of a single one. */
    private static Run rows() {
        Run x = Run.of("guest(0, 0)", "sheet(0, 0, 5)", "sheet(1, 0, 3)", "sheet(2, 0, 0)", "sheet(3, 0, 1)");
        for (int i = 0; i < 8; i++) {
            x.then("cell(" + (i < 5 ? 0 : 1) + ", " + (i < 5 ? i : i - 5) + ", " + (i + 1) + ")");
        }
        return x;
    }

    private static void stands(Run x, int s, int... numbers) {
        for (int i = 0; i < numbers.length; i++) {
            x.does("copy(" + s + ", " + i + ", 3, 0, 1)", 1).asks("states(3, 0, 0, 1)", numbers[i]);
        }
        x.refuses("copy(" + s + ", " + numbers.length + ", 3, 0, 1)", -12);
    }

    private static void copy() {
        Doc.says(37, "n numbers of a SHEET, from i on, come to another one's (or its own) place j (as they were): n.");
        stands(rows().does("copy(0, 0, 1, 0, 3)", 3), 1, 1, 2, 3);
        stands(rows().does("copy(0, 2, 1, 0, 3)", 3), 1, 3, 4, 5);
        stands(rows().does("copy(0, 4, 1, 2, 1)", 1), 1, 6, 7, 5);
        stands(rows().does("copy(1, 0, 0, 2, 3)", 3), 0, 1, 2, 6, 7, 8);
        stands(rows().does("copy(1, 0, 0, 2, 3)", 3), 1, 6, 7, 8);
        stands(rows().does("copy(0, 0, 0, 1, 4)", 4), 0, 1, 1, 2, 3, 4);
        stands(rows().does("copy(0, 1, 0, 0, 4)", 4), 0, 2, 3, 4, 5, 5);
        stands(rows().does("copy(0, 0, 0, 0, 5)", 5), 0, 1, 2, 3, 4, 5);
        rows().asks("copy(0, 0, 1, 0, 0)", 0).asks("copy(0, 5, 1, 3, 0)", 0).asks("copy(2, 0, 2, 0, 0)", 0).asks("copy(2, 0, 0, 5, 0)", 0);
        Run forty = Run.of("guest(0, 0)", "sheet(0, 2, 40)", "sheet(1, 2, 40)", "sheet(3, 2, 1)", "cell(0, 0, 11)", "cell(0, 39, 12)");
        forty.does("copy(0, 0, 1, 0, 40)", 40).does("copy(1, 39, 3, 0, 1)", 1).asks("states(3, 0, 0, 1)", 12);
        forty.does("copy(0, 0, 0, 1, 39)", 39).does("copy(0, 1, 3, 0, 1)", 1).asks("states(3, 0, 0, 1)", 11);
        forty.refuses("copy(0, 0, 1, 0, 41)", -12).refuses("copy(0, 1, 1, 0, 40)", -12).refuses("copy(0, 0, 1, 1, 40)", -12);
        for (int sort = 1; sort < 3; sort++) {
            Run.of("guest(0, 0)", "sheet(0, " + sort + ", 1)", "sheet(1, " + sort + ", 1)", "cell(0, 0, -99)").does("copy(0, 0, 1, 0, 1)", 1)
                    .asks("states(1, 0, 0, 1)", -99);
        }
    }

    private static void copyRefuses() {
        Doc.says(37, "BAD: SHEETS;");
        Run x = EdgesOfGuests.house();
        for (int s : new int[] {-1, 4, LEAST, MOST}) {
            x.refuses("copy(" + s + ", 0, 0, 0, 0)", -2).refuses("copy(0, 0, " + s + ", 0, 0)", -2);
            x.refuses("copy(" + s + ", 0, 3, 0, 0)", -2).refuses("copy(3, 0, " + s + ", 0, 0)", -2).refuses("copy(" + s + ", -1, 0, 99, -1)", -2);
        }
        Doc.says(37, "-11;");
        x.refuses("copy(3, 0, 0, 0, 0)", -11).refuses("copy(0, 0, 3, 0, 0)", -11).refuses("copy(3, 0, 3, 0, 0)", -11)
                .refuses("copy(3, -1, 0, 99, -1)", -11).refuses("copy(0, 99, 3, -1, -1)", -11);
        Doc.says(37, "-13: unlike sorts;");
        x.refuses("copy(0, 0, 1, 0, 0)", -13).refuses("copy(1, 0, 0, 0, 1)", -13).refuses("copy(1, 0, 2, 0, 1)", -13)
                .refuses("copy(2, -1, 0, 0, 1)", -13).refuses("copy(2, 0, 0, 99, 1)", -13).refuses("copy(0, 0, 2, 0, -1)", -13)
                .refuses("copy(0, 0, 2, 0, 99)", -13);
        Doc.says(37, "-12 (n below 0, too).");
        Run y = rows();
        for (int[] o : new int[][] {{-1, 0, 1}, {0, -1, 1}, {5, 0, 1}, {0, 3, 1}, {0, 0, 4}, {3, 0, 3}, {0, 1, 3}, {-1, 0, 0}, {0, -1, 0},
            {6, 0, 0}, {0, 4, 0}, {0, 0, -1}, {5, 3, -1}, {1, 1, -1}, {0, 0, LEAST}, {0, 0, MOST}, {1, 0, MOST}, {MOST, 0, 1},
            {MOST, MOST, MOST}, {LEAST, 0, 1}, {0, LEAST, 1}, {0, MOST, 1}, {LEAST, LEAST, LEAST}, {1, 1, LEAST}, {MOST, 0, LEAST}}) {
            y.refuses("copy(0, " + o[0] + ", 1, " + o[1] + ", " + o[2] + ")", -12);
        }
        y.refuses("copy(0, 0, 0, 1, 5)", -12).refuses("copy(0, 1, 0, 0, 5)", -12).refuses("copy(0, 0, 0, 0, 6)", -12)
                .refuses("copy(2, 0, 2, 0, 1)", -12).refuses("copy(2, 1, 2, 0, 0)", -12);
    }

    private static Run list(int sort, int... numbers) {
        Run x = Run.of("sheet(0, " + sort + ", " + numbers.length + ")");
        for (int i = 0; i < numbers.length; i++) {
            x.then("cell(0, " + i + ", " + numbers[i] + ")");
        }
        return x;
    }

    private static void guestsBy() {
        Doc.says(38, "GUESTS by a SHEET of a sort: from a place on, two by two (as of guest()), n of them (0 .. 6):"
                + " how many came (others are left out).");
        for (int sort = 0; sort < 3; sort++) {
            Run x = list(sort, 0, -99, 9, 99, 10, 0, 50, 1, 59, -1, 37, 98);
            x.does("guestsBy(0, " + sort + ", 0, 6)", 6).asks("told(0, 0)", -99).asks("told(1, 3)", 9).asks("told(4, 2)", 5)
                    .asks("told(5, 0)", 98).asks("told(5, 2)", 3).asks("told(5, 1)", 0);
            x.asks("guestsBy(0, " + sort + ", 0, 6)", 0).asks("guestsBy(0, " + sort + ", 10, 1)", 0).asks("guestsBy(0, " + sort + ", 0, 0)", 0);
            // those that guest() would call BAD, FULL
            Run y = list(sort, -1, 0, 60, 0, 0, -100, 0, 100, 59, 99, -1, 100);
            y.does("guestsBy(0, " + sort + ", 0, 6)", 1).asks("count(0)", 1).asks("told(0, 2)", 5).asks("told(0, 0)", 99);
            y.asks("guestsBy(0, " + sort + ", 0, 4)", 0).does("guestsBy(0, " + sort + ", 8, 2)", 1).asks("count(0)", 2);
        }
        // from a place that is odd; the last two; five are there and one has room
        Run z = list(2, 60, 11, 22, 33, 44).does("guestsBy(0, 2, 1, 1)", 1).asks("told(0, 0)", 22).asks("told(0, 3)", 1);
        z.does("guestsBy(0, 2, 3, 1)", 1).asks("told(1, 0)", 44).does("guestsBy(0, 2, 1, 2)", 2).does("guest(0, 0)", 4);
        z.does("guestsBy(0, 2, 1, 2)", 1).asks("count(0)", 6).asks("told(5, 0)", 22);
        Run.of("sheet(3, 0, 40)").does("guestsBy(3, 0, 38, 1)", 1).does("guestsBy(3, 0, 28, 6)", 5);
        list(2, 4294967, 256).asks("guestsBy(0, 2, 0, 1)", 0);
        list(0, 256, 512).does("guestsBy(0, 0, 0, 1)", 1);
        // none of them: no place is looked at
        for (int from : new int[] {0, 5, 6, -1, LEAST, MOST}) {
            EdgesOfGuests.house().asks("guestsBy(1, 1, " + from + ", 0)", 0);
        }
        Run.of("sheet(0, 0, 0)").asks("guestsBy(0, 0, 0, 0)", 0);
    }

    private static void guestsByRefuses() {
        Run x = EdgesOfGuests.house();
        Doc.says(38, "BAD: SHEET, sort, n;");
        for (int s : new int[] {-1, 4, LEAST, MOST}) {
            x.refuses("guestsBy(" + s + ", 1, 0, 1)", -2);
        }
        for (int sort : new int[] {-1, 3, LEAST, MOST}) {
            x.refuses("guestsBy(1, " + sort + ", 0, 1)", -2).refuses("guestsBy(3, " + sort + ", 0, 1)", -2);
        }
        for (int n : new int[] {-1, 7, LEAST, MOST}) {
            x.refuses("guestsBy(1, 1, 0, " + n + ")", -2).refuses("guestsBy(3, 1, 0, " + n + ")", -2).refuses("guestsBy(1, 2, -1, " + n + ")", -2);
        }
        Doc.says(38, "-11;");
        x.refuses("guestsBy(3, 0, 0, 1)", -11).refuses("guestsBy(3, 2, -1, 6)", -11).refuses("guestsBy(3, 1, 0, 0)", -11);
        Doc.says(38, "-13;");
        x.refuses("guestsBy(1, 0, 0, 1)", -13).refuses("guestsBy(1, 2, -1, 6)", -13).refuses("guestsBy(0, 1, 0, 0)", -13)
                .refuses("guestsBy(2, 0, 99, 1)", -13);
        Doc.says(38, "-12: what stood ahead came.");
        for (int from : new int[] {-1, -2, 4, 5, 6, 40, LEAST, MOST, MOST - 1}) {
            x.refuses("guestsBy(1, 1, " + from + ", 1)", -12).refuses("guestsBy(1, 1, " + from + ", 6)", -12);
        }
        Run.of("sheet(0, 0, 0)").refuses("guestsBy(0, 0, 0, 1)", -12);
        Run.of("sheet(0, 0, 1)").refuses("guestsBy(0, 0, 0, 1)", -12);
        Run.of("sheet(0, 0, 2)").does("guestsBy(0, 0, 0, 1)", 1);
        list(2, 1, 2, 3, 4).does("guestsBy(0, 2, 0, 3)", -12).asks("count(0)", 2).asks("told(1, 3)", 3).asks("told(1, 0)", 4);
        list(2, 1, 2, 3, 4, 5).does("guestsBy(0, 2, 0, 3)", -12).asks("count(0)", 2);
        list(2, 1, 2, 60, 4, 5).does("guestsBy(0, 2, 0, 3)", -12).asks("count(0)", 1);
        // the last has room, the next would be FULL, the next outside
        x.does("guestsBy(1, 1, 0, 3)", -12).asks("count(0)", 6).asks("told(5, 0)", -99).refuses("guestsBy(1, 1, 0, 3)", -12)
                .asks("guestsBy(1, 1, 0, 2)", 0);
    }

    private static Run everything() {
        Run x = new Run();
        for (int kind = 0; kind < 6; kind++) {
            x.then("guest(" + (10 * kind) + ", 0)");
        }
        for (int g = 0; g < 10; g++) {
            x.then("order(" + (g % 6) + ", " + (g == 0 ? -99 : g == 9 ? 99 : -g) + ", 50)");
        }
        return x;
    }

    private static void taken() {
        Doc.says(39, "What lies at place i: 0 .. 5 GUESTS, 6 .. 15 GLASSES, taken for 0 .. 5 a GUEST of that KIND"
                + " (also of one that is one): the number; 6 a GLASS: its WEIGHT.");
        int[][] kinds = {{0}, {0, 1}, {0, 2}, {0, 1, 3}, {0, 2, 4}, {0, 5}};
        Run x = everything();
        for (int p = 0; p < 6; p++) {
            for (int kind : kinds[p]) {
                x.asks("taken(" + p + ", " + kind + ")", p);
            }
        }
        x.asks("taken(6, 6)", -99).asks("taken(7, 6)", -1).asks("taken(15, 6)", 99);
    }

    private static void takenRefuses() {
        Run x = everything();
        Doc.says(39, "-200: kind;");
        for (int kind : new int[] {-1, 7, LEAST, MOST}) {
            x.refuses("taken(0, " + kind + ")", -200).refuses("taken(16, " + kind + ")", -200).refuses("taken(-1, " + kind + ")", -200)
                    .refuses("taken(6, " + kind + ")", -200);
            new Run().refuses("taken(0, " + kind + ")", -200);
        }
        Doc.says(39, "-1200: i;");
        for (int i : new int[] {-1, 16, LEAST, MOST}) {
            for (int kind = 0; kind <= 6; kind++) {
                x.refuses("taken(" + i + ", " + kind + ")", -1200);
            }
            new Run().refuses("taken(" + i + ", 0)", -1200);
        }
        Doc.says(39, "-1100: none such;");
        Run y = Run.of("guest(30, 0)", "order(0, 1, 50)");
        for (int kind = 0; kind <= 6; kind++) {
            for (int i : new int[] {1, 5, 7, 15}) {
                y.refuses("taken(" + i + ", " + kind + ")", -1100);
            }
        }
        y.does("spill(0)", 1).refuses("taken(6, 6)", -1100).refuses("taken(6, 0)", -1100);
        Doc.says(39, "-1300: of another sort or KIND.");
        int[][] others = {{1, 2, 3, 4, 5, 6}, {2, 3, 4, 5, 6}, {1, 3, 4, 5, 6}, {2, 4, 5, 6}, {1, 3, 5, 6}, {1, 2, 3, 4, 6}};
        for (int p = 0; p < 6; p++) {
            for (int kind : others[p]) {
                x.refuses("taken(" + p + ", " + kind + ")", -1300);
            }
        }
        for (int i = 6; i < 16; i++) {
            for (int kind = 0; kind < 6; kind++) {
                x.refuses("taken(" + i + ", " + kind + ")", -1300);
            }
        }
    }

    /** Two refusals each, at least; the first one told is the answer. That they change nothing, Run sees to. */
    private static void refusals() {
        Doc.says(Doc.TERMS, "REFUSALS, of several the first one told: NONE there is no such thing; BAD a number is not as told;"
                + " STATE as told; FULL.");
        Due.is("NONE", IcedTooSoon.NONE, -1);
        Due.is("BAD", IcedTooSoon.BAD, -2);
        Due.is("STATE", IcedTooSoon.STATE, -3);
        Due.is("FULL", IcedTooSoon.FULL, -4);
        Run x = everything().feed(" ".repeat(160));
        x.refuses("feed(6, 32, 32, 32, 32, 32)", -2).refuses("feed(1, 32, 32, 32, 32, -1)", -2).refuses("feed(1, 32, 32, 32, 32, 32)", -4);
        x.refuses("guest(60, 0)", -2).refuses("guest(0, 100)", -2).refuses("guest(0, 0)", -4);
        x.refuses("order(6, 100, 0)", -5).refuses("order(6, 0, 1)", -5).refuses("order(0, 100, 1)", -7).refuses("order(0, 0, 0)", -7)
                .refuses("order(0, 0, 1)", -4);
        x.refuses("put(6, 2, 100)", -5000).refuses("put(0, 2, 100)", -7000).refuses("told(6, 6)", -5000).refuses("told(0, 6)", -7000);
        x.refuses("glass(10, 6)", -6000).refuses("glass(0, 6)", -7000).refuses("iced(10, 100)", -6).refuses("iced(0, 100)", -7);
        x.refuses("worst(6, 0, 2)", -5).refuses("worst(0, 0, 2)", -7).refuses("film(4, 6, 21)", -2).refuses("film(0, 6, 21)", -5)
                .refuses("film(0, 0, 21)", -7);
        x.refuses("judge(4, 6)", -2).refuses("judge(0, 6)", -11).refuses("kinds(0, 6, 2)", -11).refuses("states(0, 6, 2, 2)", -1011);
        x.then("sheet(0, 0, 21)").refuses("judge(0, 6)", -2).refuses("kinds(0, 6, 2)", -2).refuses("states(0, 6, 2, 2)", -1002);
        x.then("sheet(0, 0, 20)").refuses("judge(0, 6)", -5).refuses("kinds(0, 6, 2)", -5).refuses("states(0, 6, 2, 2)", -1005)
                .refuses("kinds(0, 0, 2)", -7).refuses("states(0, 0, 2, 2)", -7000);
        x.refuses("taken(16, 7)", -200).refuses("taken(16, 0)", -1200).refuses("taken(0, 6)", -1300);
        x.then("dawn(999)").refuses("day()", -3).refuses("back()", -3).refuses("dawn(1000)", -2);
    }

    private static void hostsRefusals() {
        Doc.says(Doc.TERMS, "The host's: -11 nothing there, -12 a place outside, -13 of another sort or KIND, -14 a size below 0.");
        Run x = Run.of("sheet(0, 0, 2)", "sheet(1, 1, 2)");
        x.refuses("sheet(4, 3, -1)", -2).refuses("sheet(0, 3, -1)", -2).refuses("sheet(0, 0, -1)", -14);
        x.refuses("cell(4, 9, 0)", -2).refuses("cell(2, 9, 0)", -11).refuses("cell(0, 2, 0)", -12);
        x.refuses("copy(4, 9, 2, 9, -1)", -2).refuses("copy(0, 9, 2, 9, -1)", -11).refuses("copy(0, 9, 1, 9, -1)", -13)
                .refuses("copy(0, 9, 0, 9, -1)", -12);
        x.refuses("guestsBy(4, 3, 9, 7)", -2).refuses("guestsBy(2, 0, 9, 6)", -11).refuses("guestsBy(0, 1, 9, 6)", -13)
                .refuses("guestsBy(0, 0, 9, 6)", -12);

        Doc.says(Doc.TERMS, "They change nothing, but where it is told.");
        // told: guestsBy(), -12; and the tape is empty behind a fault
        list(2, 1, 2, 3).does("guestsBy(0, 2, 0, 2)", -12).asks("count(0)", 1);
        new Run().text("melts", -105).asks("count(5)", 0);
        EdgesOfGuests.house().refuses("guest(60, 0)", -2).refuses("order(5, 0, 1)", -5).refuses("order(0, 0, 0)", -7)
                .refuses("put(0, 0, 100)", -7000).refuses("iced(0, 100)", -7).refuses("film(0, 5, 3)", -5).refuses("film(0, 0, 21)", -7)
                .refuses("sheet(0, 0, 41)", -2).refuses("sheet(0, 0, -1)", -14).refuses("cell(0, 9, 5)", -12)
                .refuses("copy(0, 0, 0, 1, 9)", -12).refuses("feed(2, 32, 32, 32, 32, 256)", -2).refuses("force(2)", -2)
                .refuses("dawn(1000)", -2).refuses("spill(9)", -6000);
    }

    private static void questions() {
        Doc.says(Doc.TERMS, "What is asked changes nothing, but where it is told.");
        String[] asked = {"count(0)", "asks(0, 0)", "asks(1, 1)", "asks(2, 3)", "told(0, 5)", "told(1, 4)", "glass(3, 3)",
            "glass(4, 4)", "glass(5, 5)", "run(40, 0)", "run(40, 1)", "run(40, 13)", "run(40, 21)", "goesOff(6)", "worst(1, 40, 0)",
            "worst(0, 40, 1)", "falls(40, 99)", "again(99, 20, 0)", "again(99, 20, 1)", "spilt(20, 0)", "spilt(20, 1)",
            "round(99, 10, 0)", "round(99, 10, 1)", "mean(0)", "mean(1)", "judge(0, 1)", "judge(0, 0)", "kinds(0, 1, 0)",
            "kinds(0, 1, 1)", "states(0, 1, 0, 0)", "states(0, 1, 1, 1)", "owners(0, 1)", "owners(0, 0)", "who(0)", "laws(0, 1)",
            "drawn(5, 0)", "drawn(99999, 1)", "odds(5, 40, 0, 0)", "odds(5, 40, 0, 1)", "taken(0, 0)", "taken(6, 6)"};
        for (String call : asked) {
            EdgesOfGuests.house().leaves(call);
            EdgesOfGuests.house().then("force(1)", "dawn(999)").leaves(call);
        }
    }
}
