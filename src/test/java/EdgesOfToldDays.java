/** The edges of promises 24 to 30: told days. */
final class EdgesOfToldDays {
    private static final String ONE_MELTS = "melts 1;feels weight;chills 0;";
    private static final int LEAST = Integer.MIN_VALUE, MOST = Integer.MAX_VALUE;

    private EdgesOfToldDays() {
    }

    static void all() {
        judge();
        judgeBySorts();
        refusals();
        kindsOfSorts();
        mores();
        states();
        statesOfCold();
        owners();
        who();
        laws();
        film();
        filmRefuses();
    }

    /** Sheet s becomes a row of those numbers. */
    private static Run told(Run x, int s, int sort, int... numbers) {
        x.then("sheet(" + s + ", " + sort + ", " + numbers.length + ")");
        for (int i = 0; i < numbers.length; i++) {
            x.then("cell(" + s + ", " + i + ", " + numbers[i] + ")");
        }
        return x;
    }

    private static void judge() {
        Doc.says(24, "A SHEET tells MOOD of one behind 1, 2, .. DAYS (20 at most): the first number (from 0) that is otherwise;"
                + " -1: none.");
        Run x = Run.under(ONE_MELTS).then("guest(0, 5)", "guest(0, 6)", "order(0, 1, 1)", "order(0, 1, 20)", "order(0, 1, 21)");
        x.then("sheet(3, 0, 0)").asks("judge(3, 0)", -1).asks("judge(3, 1)", -1);
        told(x, 3, 0, 6).asks("judge(3, 0)", -1).asks("judge(3, 1)", -1);
        told(x, 3, 0, 5).asks("judge(3, 0)", 0);
        x.then("sheet(3, 0, 20)");
        for (int i = 0; i < 20; i++) {
            x.then("cell(3, " + i + ", 6)");
        }
        x.asks("judge(3, 0)", 19).asks("judge(3, 1)", -1).then("cell(3, 19, 7)").asks("judge(3, 0)", -1).asks("judge(3, 1)", 19);
        x.then("cell(3, 18, 7)").asks("judge(3, 0)", 18).then("cell(3, 7, 5)").asks("judge(3, 0)", 7).then("cell(3, 0, 5)")
                .asks("judge(3, 0)", 0);
    }

    private static void judgeBySorts() {
        Run x = Run.of("guest(0, -99)", "guest(0, 99)");
        for (int sort = 0; sort < 3; sort++) {
            told(x, 0, sort, -99, -99).asks("judge(0, 0)", -1).asks("judge(0, 1)", 0);
            told(x, 0, sort, 99, 99).asks("judge(0, 1)", -1).asks("judge(0, 0)", 0);
            told(x, 0, sort, 99, 99 + 256).asks("judge(0, 1)", sort == 0 ? -1 : 1);
            told(x, 0, sort, -99, -99 + 65536).asks("judge(0, 0)", sort == 2 ? 1 : -1);
        }
    }

    /** Of each call: BAD SHEET, -11, BAD too many, -5, and each ahead of those behind it. */
    private static void refusals() {
        Run x = EdgesOfGuests.house().then("sheet(2, 2, 21)");
        Run y = EdgesOfGuests.house().then("sheet(2, 0, 40)");
        Run z = EdgesOfGuests.house().then("sheet(2, 1, 20)");
        String[] calls = {"judge(%d, %d)", "kinds(%d, %d, 0)", "kinds(%d, %d, 2)", "states(%d, %d, 0, 0)", "states(%d, %d, 2, 2)",
            "owners(%d, %d)", "laws(%d, %d)"};
        int[] promises = {24, 25, 25, 26, 26, 27, 29};
        String[] words = {"BAD: SHEET; -11; BAD: it tells more than 20; -5: none such.", "BAD, -11, BAD, -5 likewise;",
            "BAD, -11, BAD, -5 likewise;", "All that judge() refuses, each 1000 less;", "All that judge() refuses, each 1000 less;",
            "BAD, -11, BAD, -5 likewise.", "BAD, -11, BAD, -5 likewise."};
        for (int i = 0; i < calls.length; i++) {
            Doc.says(promises[i], words[i]);
            int less = promises[i] == 26 ? 1000 : 0;
            for (int p : new int[] {0, -1, 5}) {
                for (int s : new int[] {-1, 4, LEAST, MOST}) {
                    x.refuses(String.format(calls[i], s, p), -2 - less);
                }
                x.refuses(String.format(calls[i], 3, p), -11 - less);
                x.refuses(String.format(calls[i], 2, p), -2 - less);
                y.refuses(String.format(calls[i], 2, p), -2 - less);
            }
            for (int p : new int[] {-1, 5, 6, LEAST, MOST}) {
                z.refuses(String.format(calls[i], 2, p), -5 - less);
            }
        }
        Doc.says(28, "BAD, -11, BAD likewise.");
        for (int s : new int[] {-1, 4, LEAST, MOST}) {
            x.refuses("who(" + s + ")", -2);
        }
        x.refuses("who(3)", -11).refuses("who(2)", -2);
        y.refuses("who(2)", -2);
        z.asks("who(2)", 0);
        Run.of("sheet(0, 0, 20)").asks("who(0)", 0);
        Run.of("sheet(0, 0, 21)").refuses("who(0)", -2);
        new Run().refuses("judge(0, 0)", -11).refuses("who(3)", -11);

        Doc.says(25, "-7: sort.");
        for (int sort : new int[] {-1, 2, LEAST, MOST}) {
            z.refuses("kinds(2, 0, " + sort + ")", -7);
        }
        Doc.says(26, "-7000: sort, what.");
        for (int wrong : new int[] {-1, 2, LEAST, MOST}) {
            z.refuses("states(2, 0, " + wrong + ", 0)", -7000).refuses("states(2, 0, 0, " + wrong + ")", -7000)
                    .refuses("states(2, 0, " + wrong + ", 1)", -7000).refuses("states(2, 0, 1, " + wrong + ")", -7000);
        }
    }

    /** MORE 3, a glass of WEIGHT 10 whose text says 4 melts; so 4 days of ICE 13. */
    private static void kindsOfSorts() {
        Doc.says(25, "KINDS (sort 0; bits 0 .. 5), MORE (1; bits 0 .. 9) by which, were they one's, that would be -1.");
        String law = "melts 4;feels 10;chills 0;";
        int[][] days = {{0, 0, 0, 10, 10}, {0, 0, 0, 13, 13}, {0, 5, 5, 5, 5}, {0, 0, 0, 26, 26}, {0, 0, 0, 0, -10}};
        int[] due = {1, 2, 20, 8, 32};
        for (int i = 0; i < days.length; i++) {
            Run x = Run.under(law).then("guest(3, 0)", "order(0, 0, 13)", "dawn(7)");
            told(x, 0, 2, days[i]).asks("kinds(0, 0, 0)", due[i]).asks("told(0, 2)", 0);
        }
        // a bride's on a day of hers, and a lady's who is so cold that only a third melts
        Run bride = Run.under(law).then("guest(3, 0)", "order(0, 0, 13)", "dawn(10)");
        told(bride, 0, 2, 26, 26).asks("kinds(0, 0, 0)", 8);
        Run lady = Run.under(law).then("guest(3, 0)", "order(0, 0, 13)", "put(0, 1, 44)");
        told(lady, 0, 2, 0, 0, 0, 0, 0, 0, 5).asks("kinds(0, 0, 0)", 16);
        Run all = Run.under(law).then("guest(3, 0)", "dawn(7)", "sheet(0, 0, 0)").asks("kinds(0, 0, 0)", 63).asks("kinds(0, 0, 1)", 1023);
        told(all, 0, 0, 0).asks("kinds(0, 0, 0)", 63).asks("kinds(0, 0, 1)", 1023);
        told(all, 0, 0, 1).asks("kinds(0, 0, 0)", 0).asks("kinds(0, 0, 1)", 0);
    }

    private static void mores() {
        for (int more = 0; more < 10; more++) {
            Run x = Run.under("melts 99;feels 10;chills 0;").then("guest(14, 0)", "order(0, 0, 1)");
            told(x, 0, 2, 10 + more).asks("kinds(0, 0, 1)", 1 << more).asks("told(0, 3)", 4);
        }
        Run y = Run.under("melts 99;feels 10;chills 0;").then("guest(14, 0)", "order(0, 0, 1)");
        told(y, 0, 2, 20).asks("kinds(0, 0, 1)", 0);
        told(y, 0, 2, 9).asks("kinds(0, 0, 1)", 0);
        Run z = Run.under("melts 9;feels 0-more;chills 0;").then("guest(4, 0)", "guest(4, 0)", "order(0, 0, 1)");
        told(z, 0, 2, -9).asks("kinds(0, 0, 1)", 512).asks("kinds(0, 1, 1)", 0);
    }

    private static void states() {
        Doc.says(26, "MOOD (sort 0; -99 .. 99), COLD (1; 0 .. 99) by which, were it so now, that would be -1:"
                + " how many (what 0), the least (1; -1000: none).");
        Run x = Run.of("guest(0, 7)", "sheet(0, 0, 0)").asks("states(0, 0, 0, 0)", 199).asks("states(0, 0, 0, 1)", -99)
                .asks("states(0, 0, 1, 0)", 100).asks("states(0, 0, 1, 1)", 0);
        for (int mood : new int[] {-99, -98, 0, 98, 99}) {
            told(x, 0, 0, mood).asks("states(0, 0, 0, 0)", 1).asks("states(0, 0, 0, 1)", mood);
        }
        for (int mood : new int[] {-100, 100}) {
            told(x, 0, 0, mood).asks("states(0, 0, 0, 0)", 0).asks("states(0, 0, 0, 1)", -1000).asks("states(0, 0, 1, 0)", 0)
                    .asks("states(0, 0, 1, 1)", -1000);
        }
        told(x, 0, 0, 7).asks("states(0, 0, 1, 0)", 100).asks("states(0, 0, 1, 1)", 0).asks("told(0, 0)", 7);
        // by the bound: any of 39 .. 99 and 60 is 99, any of -99 .. -39 less 60 is -99
        Run y = Run.under("melts 99;feels weight;chills 0;").then("guest(0, 0)", "order(0, 60, 1)");
        told(y, 0, 0, 99).asks("states(0, 0, 0, 0)", 61).asks("states(0, 0, 0, 1)", 39);
        Run z = Run.under("melts 99;feels weight;chills 0;").then("guest(0, 0)", "order(0, -60, 1)");
        told(z, 0, 0, -99).asks("states(0, 0, 0, 0)", 61).asks("states(0, 0, 0, 1)", -99);
    }

    private static void statesOfCold() {
        int[][] colds = {{0, 1}, {1, 1}, {98, 1}, {99, 1}};
        for (int[] c : colds) {
            Run x = Run.under("melts 99;feels cold=" + c[0] + ";chills 0;").then("guest(0, 0)", "put(0, 1, 50)", "order(0, 0, 1)");
            told(x, 0, 0, 1).asks("states(0, 0, 1, 0)", c[1]).asks("states(0, 0, 1, 1)", c[0]).asks("told(0, 1)", 50);
            told(x, 0, 0, 0).asks("states(0, 0, 1, 0)", 99).asks("states(0, 0, 1, 1)", c[0] == 0 ? 1 : 0);
        }
        Run y = Run.under("melts 99;feels cold<0 or 99<cold;chills 0;").then("guest(0, 0)", "order(0, 0, 1)");
        told(y, 0, 0, 1).asks("states(0, 0, 1, 0)", 0).asks("states(0, 0, 1, 1)", -1000);
        // a gentleman who is so cold feels nothing: 51 .. 99
        Run z = Run.of("guest(20, 0)", "order(0, 40, 1)");
        told(z, 0, 0, 0).asks("states(0, 0, 1, 0)", 49).asks("states(0, 0, 1, 1)", 51);
        told(z, 0, 0, 20).asks("states(0, 0, 1, 0)", 51).asks("states(0, 0, 1, 1)", 0);
    }

    private static void owners() {
        Doc.says(27, "GLASSES (bits) that aren't one's such that, were just that one one's now, that would be -1.");
        Run x = Run.under(ONE_MELTS).then("guest(0, 0)", "guest(0, 0)");
        for (int g = 0; g < 10; g++) {
            x.then("order(" + (g == 4 ? 0 : 1) + ", " + (g == 0 || g == 9 ? 7 : 3) + ", " + (g == 4 ? 1 : 2) + ")");
        }
        // 4 is one's own, and stays so
        told(x, 0, 0, 3, 10).asks("owners(0, 0)", 513);
        told(x, 0, 0, 3, 6).asks("owners(0, 0)", 1023 - 513 - 16);
        told(x, 0, 0, 3).asks("owners(0, 0)", 1023 - 16).asks("owners(0, 1)", 16);
        told(x, 0, 0, 4).asks("owners(0, 0)", 0).asks("owners(0, 1)", 0);
        told(x, 0, 0, 3, 3).asks("owners(0, 0)", 0);
        told(x, 0, 0, 0, 7).asks("owners(0, 0)", 0);
        x.then("sheet(0, 0, 0)").asks("owners(0, 0)", 1023 - 16).asks("owners(0, 1)", 16).asks("glass(9, 0)", 1);
        x.then("spill(9)", "spill(1)").asks("owners(0, 0)", 1023 - 16 - 512 - 2);
        // its weight, its ice, but melting and felt as one's own kind does
        Run y = Run.under(ONE_MELTS).then("guest(39, 0)", "guest(0, 0)", "order(1, 5, 2)");
        told(y, 0, 0, 0, 28).asks("owners(0, 0)", 1);
        Run.of("guest(0, 0)", "sheet(0, 0, 0)").asks("owners(0, 0)", 0);
        Run.of("guest(0, 0)", "order(0, 1, 5)", "sheet(0, 0, 0)").asks("owners(0, 0)", 0);
    }

    private static void who() {
        Doc.says(28, "GUESTS (bits) of whom that is -1.");
        Run x = new Run().then("sheet(0, 0, 3)", "sheet(1, 0, 0)").asks("who(0)", 0).asks("who(1)", 0);
        for (int p = 0; p < 6; p++) {
            x.then("guest(0, " + (p == 0 || p == 5 ? 0 : p) + ")").asks("who(1)", (2 << p) - 1);
        }
        x.asks("who(0)", 33);
        told(x, 0, 0, 4).asks("who(0)", 16);
        told(x, 0, 0, 5).asks("who(0)", 0);
        x.then("sheet(0, 0, 20)").asks("who(0)", 33).then("cell(0, 19, 1)").asks("who(0)", 0);
    }

    private static void laws() {
        Doc.says(29, "TEXTS (bits), were they THE LAW, by which that would be -1.");
        Run x = Run.of("guest(0, 0)", "order(0, 7, 30)", "sheet(0, 0, 0)").asks("laws(0, 0)", 1);
        for (int t = 1; t < 6; t++) {
            x.text("melts " + (10 * t) + ";feels weight;chills 0;", t).asks("laws(0, 0)", (2 << t) - 1);
        }
        // 0 and 1 melt 10 in a day; 2 melts 20; 3, 4, 5 all at once
        told(x, 0, 0, 0, 0, 7).asks("laws(0, 0)", 3);
        told(x, 0, 0, 0, 7).asks("laws(0, 0)", 4);
        told(x, 0, 0, 7).asks("laws(0, 0)", 56);
        told(x, 0, 0, 0).asks("laws(0, 0)", 7);
        told(x, 0, 0, 1).asks("laws(0, 0)", 0);
        told(x, 0, 0, 7).then("force(5)").asks("laws(0, 0)", 56).asks("count(4)", 5);
    }

    private static void film() {
        Doc.says(30, "A SHEET truly becomes MOOD of one behind 1, .., n DAYS (0 .. 20; bytes): n.");
        Run x = Run.under(ONE_MELTS).then("guest(0, 5)", "guest(0, 6)", "order(0, -1, 1)", "order(0, 3, 20)", "order(0, 1, 21)");
        x.does("film(0, 0, 0)", 0).asks("guestsBy(0, 0, 0, 0)", 0).refuses("cell(0, 0, 0)", -12);
        x.does("film(3, 0, 1)", 1).asks("judge(3, 0)", -1).refuses("cell(3, 1, 0)", -12).asks("states(3, 0, 0, 1)", 5);
        x.does("film(3, 0, 20)", 20).asks("judge(3, 0)", -1).refuses("cell(3, 20, 0)", -12).asks("who(3)", 1);
        Run y = told(Run.under(ONE_MELTS).then("guest(0, 5)", "order(0, -1, 1)", "order(0, 3, 20)"), 1, 0, 4, 4, 7);
        y.then("film(0, 0, 20)").does("copy(0, 18, 1, 1, 2)", 2).asks("judge(1, 0)", 2).does("cell(1, 2, 4)", 1).asks("judge(1, 0)", -1);
        // whatever it was, it is of bytes and anew
        for (int sort = 0; sort < 3; sort++) {
            Run z = Run.of("guest(0, 99)", "sheet(2, " + sort + ", 40)", "cell(2, 39, 5)");
            z.does("film(2, 0, 2)", 2).asks("guestsBy(2, 0, 0, 0)", 0).refuses("guestsBy(2, 2, 0, 0)", -13).refuses("cell(2, 2, 0)", -12);
            z.asks("judge(2, 0)", -1).does("put(0, 0, -99)", 99).asks("judge(2, 0)", 0).does("film(2, 0, 2)", 2).asks("judge(2, 0)", -1);
        }
        x.asks("told(0, 0)", 5).asks("count(1)", 3).asks("count(2)", 0);
    }

    private static void filmRefuses() {
        Run x = EdgesOfGuests.house();
        Doc.says(30, "BAD: SHEET;");
        for (int s : new int[] {-1, 4, LEAST, MOST}) {
            x.refuses("film(" + s + ", 0, 1)", -2).refuses("film(" + s + ", 5, 21)", -2).refuses("film(" + s + ", 0, 21)", -2);
        }
        Doc.says(30, "-5: none such;");
        for (int p : new int[] {-1, 5, 6, LEAST, MOST}) {
            x.refuses("film(0, " + p + ", 1)", -5).refuses("film(0, " + p + ", 21)", -5);
        }
        Doc.says(30, "-7: n.");
        for (int n : new int[] {-1, 21, LEAST, MOST}) {
            for (int s = 0; s < 4; s++) {
                x.refuses("film(" + s + ", 0, " + n + ")", -7);
            }
        }
    }
}
