/** The edges of promises 1 to 12: guests, glasses, the law. */
final class EdgesOfGuests {
    private static final String NOTHING = "melts 0;feels 0;chills 0;";
    private static final int LEAST = Integer.MIN_VALUE, MOST = Integer.MAX_VALUE;

    private EdgesOfGuests() {
    }

    static void all() {
        newObject();
        count();
        dawn();
        feed();
        feedFull();
        text();
        force();
        asks();
        guest();
        order();
        put();
        told();
        toldNext();
        glass();
    }

    /** A house with something of everything; one more guest, glass, text, byte has room. */
    static Run house() {
        return new Run().text("melts 3+more;feels weight-cold;chills ice*(weight<0);", 1)
                .then("guest(3, 30)", "guest(14, -50)", "guest(29, 99)", "guest(36, 0)", "guest(43, -99)")
                .then("order(0, -40, 30)", "order(1, 60, 10)", "order(2, -90, 25)", "order(3, -20, 45)", "order(4, 50, 35)",
                        "order(0, 20, 5)", "order(1, 7, 99)", "spill(2)", "put(3, 1, 17)", "dawn(4)", "image()")
                .then("put(0, 0, 12)", "dawn(12)", "order(2, 5, 60)", "film(0, 1, 9)", "sheet(1, 1, 5)", "cell(1, 0, 47)",
                        "cell(1, 1, -99)", "cell(1, 2, 59)", "cell(1, 3, 100)", "sheet(2, 2, 21)")
                .feed("melts 1;");
    }

    private static void newObject() {
        Doc.says(1, "No GUESTS, no GLASSES.");
        Run x = new Run();
        x.asks("count(0)", 0).asks("count(1)", 0).asks("run(0, 0)", 0).asks("run(40, 1)", 0).asks("falls(40, 99)", 0);
        for (int p = 0; p < 6; p++) {
            x.refuses("told(" + p + ", 0)", -5000).refuses("order(" + p + ", 0, 1)", -5).refuses("taken(" + p + ", 0)", -1100);
        }
        for (int g = 0; g < 10; g++) {
            x.refuses("glass(" + g + ", 0)", -6000).refuses("goesOff(" + g + ")", -6).refuses("taken(" + (6 + g) + ", 6)", -1100);
        }
    }

    private static void count() {
        Doc.says(2, "0 GUESTS, 1 GLASSES, 2 DAY, 3 TEXTS, 4 THE LAW, 5 bytes of THE TAPE.");
        int[] fresh = {0, 0, 0, 1, 0, 0};
        int[] some = {2, 3, 7, 5, 4, 6};
        int[] full = {6, 10, 999, 6, 5, 160};
        Run x = new Run();
        Run y = Run.of("guest(0, 0)", "guest(0, 0)", "order(0, 0, 9)", "order(0, 0, 9)", "order(0, 0, 9)", "dawn(7)");
        Run z = Run.of("guest(0, 0)", "guest(0, 0)", "guest(0, 0)", "guest(0, 0)", "guest(0, 0)", "guest(0, 0)", "dawn(999)");
        for (int t = 1; t < 6; t++) {
            if (t < 5) {
                y.text(NOTHING, t);
            }
            z.text(NOTHING, t);
        }
        for (int g = 0; g < 10; g++) {
            z.then("order(0, 0, 9)");
        }
        y.then("force(4)").feed("123456");
        z.then("force(5)").feed(" ".repeat(160));
        for (int what = 0; what < 6; what++) {
            x.asks("count(" + what + ")", fresh[what]);
            y.asks("count(" + what + ")", some[what]);
            z.asks("count(" + what + ")", full[what]);
        }

        Doc.says(2, "BAD.");
        for (int what : new int[] {-1, 6, LEAST, MOST}) {
            house().refuses("count(" + what + ")", -2);
        }
    }

    private static void dawn() {
        Doc.says(3, "DAY becomes v: what it was.");
        new Run().does("dawn(0)", 0).does("dawn(1)", 0).does("dawn(999)", 1).does("dawn(999)", 999).asks("count(2)", 999)
                .does("dawn(0)", 999).asks("count(2)", 0);
        house().does("dawn(998)", 12).asks("count(2)", 998).does("day()", 34).refuses("day()", -3).does("dawn(5)", 999);

        Doc.says(3, "BAD.");
        for (int v : new int[] {-1, 1000, LEAST, MOST}) {
            house().refuses("dawn(" + v + ")", -2);
        }
    }

    private static void feed() {
        Doc.says(4, "The first n (1 .. 5) of five bytes (0 .. 255 each) come behind THE TAPE's, one by one: how many it has.");
        Run x = new Run();
        int has = 0;
        for (int n = 1; n <= 5; n++) {
            has += n;
            x.does("feed(" + n + ", 0, 255, 0, 255, 0)", has).asks("count(5)", has);
        }
        // by all n, and no byte beyond the first n
        Run y = Run.of("feed(1, 109, 63, 63, 63, 63)", "feed(2, 101, 108, 63, 63, 63)", "feed(3, 116, 115, 49, 63, 63)",
                "feed(4, 59, 102, 101, 101, 63)", "feed(5, 108, 115, 50, 59, 99)", "feed(5, 104, 105, 108, 108, 115)",
                "feed(2, 51, 59, 63, 63, 63)");
        y.asks("count(5)", 22).does("text()", 1).asks("count(5)", 0);
        y.then("guest(0, 0)", "order(0, 0, 9)", "force(1)").asks("asks(0, 0)", 1).asks("asks(1, 0)", 2).asks("asks(2, 0)", 3);

        Doc.says(4, "BAD: n, any of the five;");
        for (int n : new int[] {0, 6, -1, LEAST, MOST}) {
            house().refuses("feed(" + n + ", 1, 1, 1, 1, 1)", -2);
        }
        for (int i = 0; i < 5; i++) {
            for (int b : new int[] {-1, 256, LEAST, MOST}) {
                int[] five = {32, 32, 32, 32, 32};
                five[i] = b;
                String bytes = five[0] + ", " + five[1] + ", " + five[2] + ", " + five[3] + ", " + five[4] + ")";
                house().refuses("feed(1, " + bytes, -2).refuses("feed(5, " + bytes, -2);
            }
        }
    }

    private static void feedFull() {
        Doc.says(4, "FULL: they have not all room (none comes).");
        for (int n = 1; n <= 5; n++) {
            Run x = new Run().feed(" ".repeat(161 - n));
            x.refuses("feed(" + n + ", 32, 32, 32, 32, 32)", -4).asks("count(5)", 161 - n);
            // BAD is told ahead
            x.refuses("feed(" + n + ", 32, 32, 32, 32, 256)", -2).refuses("feed(6, 32, 32, 32, 32, 32)", -2)
                    .refuses("feed(0, 32, 32, 32, 32, 32)", -2);
            if (n > 1) {
                x.does("feed(" + (n - 1) + ", 32, 32, 32, 32, 32)", 160);
            }
            x.refuses("feed(1, 32, 32, 32, 32, 32)", -4).asks("count(5)", 160);
            x.does("text()", -260).does("feed(5, 32, 32, 32, 32, 32)", 5);
        }
        String text = "melts 1;feels 2;chills 3;";
        new Run().feed(text + " ".repeat(157 - text.length())).refuses("feed(4, 32, 32, 32, 63, 32)", -4).does("text()", 1);
    }

    private static void text() {
        Doc.says(5, "THE TAPE, which is empty then, is a TEXT: its number;");
        Run x = new Run();
        for (int t = 1; t < 6; t++) {
            x.text("melts " + t + ";feels 0;chills 0;", t).asks("count(5)", 0).asks("count(3)", t + 1);
        }
        // what came behind an earlier text is a text of its own, and nothing of the earlier one stands behind it
        new Run().text(NOTHING, 1).text("melts 1", -107).text(";feels 0;chills 0;", -100).text(NOTHING, 2);
        new Run().text("x".repeat(50), -100).text("melts", -105).text("9".repeat(50), -100).text("melts 1234", -110)
                .text(";".repeat(50), -100).text("melts 0;feels 0;chills 0", -124).text(" ".repeat(50), -150).text("melts", -105)
                .text(NOTHING + " ".repeat(9), 1).text("melts 0;feels 0;chills 0", -124);

        Doc.says(5, "-100 less the place of its FAULT.");
        new Run().does("text()", -100).asks("count(3)", 1).text("?", -100).text(" ?", -101).text("melts", -105)
                .asks("count(5)", 0).text(" ".repeat(159) + "?", -259).asks("count(5)", 0).text(" ".repeat(160), -260)
                .asks("count(5)", 0).asks("count(3)", 1).does("text()", -100).text(NOTHING, 1);
        house().does("text()", -108).asks("count(5)", 0).asks("count(3)", 2).asks("count(4)", 0).does("text()", -100);

        Doc.says(5, "FULL (ahead of the FAULT; then THE TAPE stays).");
        Run y = new Run();
        for (int t = 1; t < 6; t++) {
            y.text(NOTHING, t);
        }
        y.refuses("text()", -4).asks("count(5)", 0);
        y.feed("?").refuses("text()", -4).asks("count(5)", 1).feed("melts").refuses("text()", -4).asks("count(5)", 6);
        y.feed(" ".repeat(154)).refuses("text()", -4).asks("count(5)", 160).refuses("feed(1, 32, 32, 32, 32, 32)", -4);
        y.asks("count(3)", 6);
        // an image keeps no texts, so going back makes no room
        Run z = new Run().does("image()", 0);
        for (int t = 1; t < 6; t++) {
            z.text(NOTHING, t);
        }
        z.does("back()", 0).feed(NOTHING).refuses("text()", -4).asks("count(5)", NOTHING.length()).does("force(5)", 0);
    }

    private static void force() {
        Doc.says(6, "A TEXT is THE LAW: which was.");
        Run x = Run.of("guest(0, 0)", "order(0, 7, 50)").does("force(0)", 0);
        for (int t = 1; t < 6; t++) {
            x.text("melts " + t + ";feels 0;chills 0;", t);
        }
        x.does("force(5)", 0).asks("count(4)", 5).asks("glass(0, 3)", 5).does("force(1)", 5).asks("glass(0, 3)", 1)
                .does("force(1)", 1).does("force(0)", 1).asks("glass(0, 3)", 10);

        Doc.says(6, "BAD.");
        for (int t : new int[] {-1, 6, LEAST, MOST}) {
            x.refuses("force(" + t + ")", -2);
        }
        new Run().refuses("force(1)", -2).refuses("force(-1)", -2).text("melts 1", -107).refuses("force(1)", -2)
                .text(NOTHING, 1).refuses("force(2)", -2).does("force(1)", 0);
    }

    private static void asks() {
        Doc.says(7, "What part 0 melts, 1 feels, 2 chills says of a GLASS.");
        Run x = Run.under("melts ice;feels weight;chills 5+more;").then("guest(59, 0)", "guest(41, 0)");
        for (int g = 0; g < 10; g++) {
            x.then("order(1, " + (g - 5) + ", " + (90 + g) + ")");
        }
        for (int g = 0; g < 10; g++) {
            x.asks("asks(0, " + g + ")", 90 + g).asks("asks(1, " + g + ")", g - 5).asks("asks(2, " + g + ")", 6);
        }
        // the text's own words, whatever the kind
        Run.under("melts 20;feels 30;chills 40;").then("guest(59, 0)", "order(0, 0, 1)").asks("asks(0, 0)", 20)
                .asks("asks(1, 0)", 30).asks("asks(2, 0)", 40);

        Doc.says(7, "-1000: none such, it isn't there.");
        for (int part : new int[] {-1, 3, LEAST, MOST}) {
            x.refuses("asks(" + part + ", 0)", -1000);
        }
        for (int g : new int[] {-1, 10, LEAST, MOST}) {
            x.refuses("asks(0, " + g + ")", -1000).refuses("asks(3, " + g + ")", -1000);
        }
        x.does("spill(9)", 4).refuses("asks(0, 9)", -1000).refuses("asks(2, 9)", -1000).asks("asks(0, 8)", 98);
        new Run().refuses("asks(0, 0)", -1000).refuses("asks(1, 9)", -1000);
    }

    private static void guest() {
        Doc.says(8, "A GUEST (kindMore: 10 times KIND, and MORE; moods: MOOD): the number.");
        int[] kindMores = {0, 9, 10, 19, 50, 59};
        int[] moods = {-99, 99, 0, -1, 1, 98};
        Run x = new Run();
        for (int p = 0; p < 6; p++) {
            x.does("guest(" + kindMores[p] + ", " + moods[p] + ")", p).asks("told(" + p + ", 2)", kindMores[p] / 10)
                    .asks("told(" + p + ", 3)", kindMores[p] % 10).asks("told(" + p + ", 0)", moods[p]).asks("count(0)", p + 1);
        }

        Doc.says(8, "BAD;");
        for (int kindMore : new int[] {-1, 60, -10, LEAST, MOST}) {
            house().refuses("guest(" + kindMore + ", 0)", -2);
            x.refuses("guest(" + kindMore + ", 0)", -2);
        }
        for (int mood : new int[] {-100, 100, LEAST, MOST}) {
            house().refuses("guest(0, " + mood + ")", -2);
            x.refuses("guest(0, " + mood + ")", -2);
        }

        Doc.says(8, "FULL.");
        x.refuses("guest(0, 0)", -4).refuses("guest(59, 99)", -4);
        house().does("guest(0, 0)", 5).refuses("guest(0, 0)", -4).does("back()", 5).does("guest(0, 0)", 5)
                .refuses("guest(0, 0)", -4);
    }

    private static void order() {
        Doc.says(9, "An ORDER, truly (heavy: WEIGHT; much: ICE, 1 .. 99): which GLASS.");
        Run x = Run.of("guest(0, 0)", "guest(0, 0)");
        x.does("order(0, -99, 1)", 0).does("order(1, 99, 99)", 1).asks("count(1)", 2);
        x.asks("glass(0, 1)", -99).asks("glass(0, 2)", 1).asks("glass(1, 1)", 99).asks("glass(1, 2)", 99);
        x.asks("told(0, 1)", 5).asks("told(1, 1)", 5).does("spill(0)", -99).does("order(1, 0, 50)", 0).asks("told(1, 1)", 10);

        Doc.says(9, "-5: none such;");
        for (int p : new int[] {-1, 5, 6, LEAST, MOST}) {
            house().refuses("order(" + p + ", 0, 1)", -5).refuses("order(" + p + ", 100, 0)", -5);
        }
        house().does("guest(0, 0)", 5).does("order(5, 0, 1)", 7).refuses("order(6, 0, 1)", -5);

        Doc.says(9, "-7: heavy, much;");
        for (int heavy : new int[] {-100, 100, LEAST, MOST}) {
            house().refuses("order(0, " + heavy + ", 1)", -7);
        }
        for (int much : new int[] {0, 100, -1, LEAST, MOST}) {
            house().refuses("order(0, 0, " + much + ")", -7);
        }

        Doc.says(9, "FULL: all are there.");
        Run y = house().does("order(0, 0, 1)", 7).does("order(0, 0, 1)", 8).does("order(0, 0, 1)", 9);
        y.refuses("order(0, 0, 1)", -4).refuses("order(5, 0, 1)", -5).refuses("order(0, 100, 1)", -7)
                .refuses("order(0, 0, 0)", -7);
        y.does("spill(4)", 50).does("order(0, 1, 1)", 4).refuses("order(0, 0, 1)", -4);
    }

    private static void put() {
        Doc.says(10, "MOOD (what 0), COLD (1) becomes v: what it was.");
        Run x = Run.of("guest(0, 7)", "guest(0, 8)");
        x.does("put(0, 0, -99)", 7).does("put(0, 0, 99)", -99).does("put(0, 0, 0)", 99).asks("told(0, 0)", 0);
        x.does("put(1, 1, 99)", 0).does("put(1, 1, 0)", 99).does("put(1, 1, 50)", 0).asks("told(1, 1)", 50);
        x.asks("told(0, 1)", 0).asks("told(1, 0)", 8);

        Doc.says(10, "-5000: none such;");
        for (int p : new int[] {-1, 5, 6, LEAST, MOST}) {
            house().refuses("put(" + p + ", 0, 0)", -5000).refuses("put(" + p + ", 2, 100)", -5000);
        }

        Doc.says(10, "-7000: what, v.");
        for (int what : new int[] {-1, 2, LEAST, MOST}) {
            house().refuses("put(0, " + what + ", 0)", -7000);
        }
        for (int v : new int[] {-100, 100, LEAST, MOST}) {
            house().refuses("put(0, 0, " + v + ")", -7000).refuses("put(0, 1, " + v + ")", -7000);
        }
        house().refuses("put(0, 1, -1)", -7000).refuses("put(0, 1, -99)", -7000);
    }

    private static void told() {
        Doc.says(11, "What 0 MOOD, 1 COLD, 2 KIND, 3 MORE, 4 one's GLASSES (bits),");
        Run x = Run.under(NOTHING).then("guest(0, -99)", "guest(59, 99)", "put(1, 1, 99)");
        int[] due = {-99, 0, 0, 0, 0};
        int[] other = {99, 99, 5, 9, 0};
        for (int what = 0; what < 5; what++) {
            x.asks("told(0, " + what + ")", due[what]).asks("told(1, " + what + ")", other[what]);
        }
        for (int g = 0; g < 10; g++) {
            x.then("order(" + (g == 0 || g == 9 ? 1 : 0) + ", 0, 9)");
        }
        x.asks("told(0, 4)", 510).asks("told(1, 4)", 513).then("spill(9)", "spill(1)").asks("told(0, 4)", 508)
                .asks("told(1, 4)", 1);

        Doc.says(11, "-5000: none such;");
        for (int p : new int[] {-1, 5, 6, LEAST, MOST}) {
            house().refuses("told(" + p + ", 0)", -5000).refuses("told(" + p + ", 6)", -5000).refuses("told(" + p + ", 5)", -5000);
        }

        Doc.says(11, "-7000: what.");
        for (int what : new int[] {-1, 6, LEAST, MOST}) {
            house().refuses("told(0, " + what + ")", -7000);
        }
    }

    private static void toldNext() {
        Doc.says(11, "5 which of them goes OFF behind fewest DAYS (1 .. 60), of like ones the first (-1: none).");
        Run x = Run.under("melts 1;feels 0;chills 0;").then("guest(0, 0)", "guest(0, 0)").asks("told(0, 5)", -1);
        x.then("order(0, 0, 62)", "order(0, 0, 61)").asks("told(0, 5)", -1);
        x.then("order(0, 0, 60)", "order(0, 0, 60)").asks("told(0, 5)", 2).asks("told(1, 5)", -1);
        x.then("order(1, 0, 1)", "order(0, 0, 59)").asks("told(0, 5)", 5).asks("told(1, 5)", 4);
        x.then("order(0, 0, 1)", "order(0, 0, 1)", "order(0, 0, 1)").asks("told(0, 5)", 6);
        x.then("spill(0)", "order(0, 0, 1)").asks("told(0, 5)", 0);
        Run.under("melts 59<day;feels 0;chills 0;").then("guest(0, 0)", "order(0, 0, 1)").asks("told(0, 5)", -1)
                .then("dawn(1)").asks("told(0, 5)", 0);
        // a lady is so cold on the first day only: 5 melts, then 16
        Run.under("melts 10;feels weight;chills 0;").then("guest(46, 0)", "order(0, 0, 22)", "order(0, 0, 21)", "put(0, 1, 22)")
                .asks("goesOff(0)", 3).asks("goesOff(1)", 2).asks("told(0, 5)", 1);
    }

    private static void glass() {
        Doc.says(12, "What 0 whose it is, 1 WEIGHT, 2 ICE, 3 how much MELTS now, 4 how one would FEEL it now,"
                + " 5 how much it CHILLS now.");
        Run x = Run.under("melts ice+cold;feels weight-ice;chills day+mood;").then("guest(0, 1)", "guest(0, 2)", "dawn(6)");
        for (int g = 0; g < 10; g++) {
            x.then("order(0, 0, 1)");
        }
        x.then("spill(9)", "order(1, -40, 50)", "put(1, 1, 3)");
        int[] due = {1, -40, 50, 53, -90, 8};
        for (int what = 0; what < 6; what++) {
            x.asks("glass(9, " + what + ")", due[what]);
        }
        // now: as the ice, the cold, the mood, the day are now
        x.then("iced(9, 9)", "put(1, 1, 30)", "put(1, 0, 20)", "dawn(7)");
        int[] then = {1, -40, 59, 89, -99, 27};
        for (int what = 0; what < 6; what++) {
            x.asks("glass(9, " + what + ")", then[what]);
        }

        Doc.says(12, "-6000: no such GLASS;");
        for (int g : new int[] {-1, 7, 9, 10, LEAST, MOST}) {
            house().refuses("glass(" + g + ", 0)", -6000).refuses("glass(" + g + ", 6)", -6000).refuses("glass(" + g + ", 3)", -6000);
        }
        house().then("spill(0)").refuses("glass(0, 2)", -6000);

        Doc.says(12, "-7000: what.");
        for (int what : new int[] {-1, 6, LEAST, MOST}) {
            house().refuses("glass(0, " + what + ")", -7000);
        }
    }
}
