import java.io.IOException;
import java.nio.file.Files;
import java.nio.file.Path;

/** What stands around the promises: what it is, told as one story; the public face; what is not promised. */
final class EdgesOfWhole {
    private static final String SOURCE = "src/main/java/IcedTooSoon.java";
    private static final String FACE = """
        public final class IcedTooSoon {
        public static final int NONE = -1, BAD = -2, STATE = -3, FULL = -4;
        public static final long NO = -4611686018427387904L;
        public IcedTooSoon();
        public int count(int what);
        public int dawn(int v);
        public int feed(int n, int a, int b, int c, int d, int e);
        public int text();
        public int force(int t);
        public int asks(int part, int g);
        public int guest(int kindMore, int moods);
        public int order(int p, int heavy, int much);
        public int put(int p, int what, int v);
        public int told(int p, int what);
        public int glass(int g, int what);
        public int day();
        public int iced(int g, int much);
        public int spill(int g);
        public int run(int n, int what);
        public int goesOff(int g);
        public int worst(int p, int n, int what);
        public int falls(int n, int below);
        public int again(int much, int n, int what);
        public int spilt(int n, int what);
        public int round(int much, int n, int what);
        public long mean(int part);
        public int judge(int s, int p);
        public int kinds(int s, int p, int sort);
        public int states(int s, int p, int sort, int what);
        public int owners(int s, int p);
        public int who(int s);
        public int laws(int s, int p);
        public int film(int s, int p, int n);
        public int drawn(int seed, int what);
        public long odds(int seed, int seeds, int least, int part);
        public int image();
        public int back();
        public int sheet(int s, int sort, int n);
        public int cell(int s, int i, int v);
        public int copy(int s, int i, int other, int j, int n);
        public int guestsBy(int s, int sort, int from, int n);
        public int taken(int i, int kind);
        }
        """;

    private EdgesOfWhole() {
    }

    static void all() {
        houseOfGuests();
        dayByDay();
        feltLessOrLater();
        byText();
        whoFeelsWhat();
        whatIsBest();
        toldDays();
        lotsAndImages();
        calls();
        face();
        notPromised();
    }

    private static void houseOfGuests() {
        Doc.says(Doc.WHAT_IT_IS, "Iced, for what is too soon: a house where up to six guests of kinds drink what they have"
                + " heard in tall glasses, up to ten, each so bad or good, with so much ice;");
        Run x = new Run();
        for (int p = 0; p < 6; p++) {
            x.does("guest(" + (10 * p) + ", 0)", p).asks("told(" + p + ", 2)", p);
        }
        x.refuses("guest(0, 0)", -4);
        for (int g = 0; g < 10; g++) {
            int heavy = g % 2 == 0 ? -10 * g : 10 * g;
            x.does("order(" + (g % 6) + ", " + heavy + ", " + (g + 1) + ")", g);
            x.asks("glass(" + g + ", 1)", heavy).asks("glass(" + g + ", 2)", g + 1);
        }
        x.refuses("order(0, 0, 1)", -4);
    }

    private static void dayByDay() {
        Doc.says(Doc.WHAT_IT_IS, "day by day it melts, and when there is none left it goes off, and is felt;");
        Run.of("guest(0, 0)", "order(0, -30, 25)")
                .does("day()", 0).asks("glass(0, 2)", 15).does("day()", 0).asks("glass(0, 2)", 5).asks("told(0, 0)", 0)
                .does("day()", 1).refuses("glass(0, 2)", -6000).asks("told(0, 0)", -30);
        Doc.says(Doc.WHAT_IT_IS, "======== 1 DAY (0 ..");
        new Run().asks("count(2)", 0).does("day()", 0).asks("count(2)", 1).does("dawn(0)", 1).refuses("dawn(-1)", -2);
    }

    private static void feltLessOrLater() {
        Doc.says(Doc.WHAT_IT_IS, "who has had more than one is so cold that it is felt less, or later;");
        // a GENTLEMAN above COLD 50 feels nothing, another half
        Run.under("melts 10;feels weight;chills 30;").then("guest(20, 0)", "order(0, -40, 10)")
                .asks("run(1, 10)", -20).does("order(0, -40, 99)", 1).asks("run(1, 10)", 0);
        // a LADY's melts 3 of 10 above COLD 20
        Run.under("melts 10;feels weight;chills 15;").then("guest(40, 0)", "order(0, -40, 10)")
                .asks("goesOff(0)", 1).does("order(0, -40, 99)", 1).asks("goesOff(0)", 4);
    }

    private static void byText() {
        Doc.says(Doc.WHAT_IT_IS, "by a text how much melts in a day, how it is felt, how cold a glass makes one;");
        Run.under("melts 7;feels 8;chills 9;").then("guest(0, 0)", "order(0, 50, 8)")
                .asks("glass(0, 3)", 7).asks("glass(0, 4)", 8).asks("glass(0, 5)", 9).asks("told(0, 1)", 9)
                .does("day()", 0).asks("glass(0, 2)", 1).does("day()", 1).asks("told(0, 0)", 8);
    }

    /** Day 1: 0 is in mood 15, 1 in -30; day 2: 0 in -15. */
    private static Run two() {
        return Run.of("guest(0, 10)", "guest(0, 20)", "order(0, -30, 20)", "order(1, -50, 10)", "order(0, 5, 10)");
    }

    private static void whoFeelsWhat() {
        Doc.says(Doc.WHAT_IT_IS, "who feels what on which day, in which mood one is then, which glass goes off next;");
        two().asks("run(1, 10)", 15).asks("run(2, 10)", -15).asks("run(1, 11)", -30).asks("run(2, 11)", -30)
                .asks("run(1, 0)", 1).asks("run(2, 0)", 0).asks("goesOff(0)", 2).asks("goesOff(1)", 1).asks("goesOff(2)", 1)
                .asks("told(0, 5)", 2).asks("told(1, 5)", 1).asks("falls(1, 0)", 2).asks("falls(2, 0)", 3);
    }

    private static void whatIsBest() {
        Doc.says(Doc.WHAT_IT_IS, "which to ice again, which to spill, which few to ice together, on which day it is worst;");
        two().asks("run(2, 1)", -45).asks("again(50, 2, 0)", 1).asks("again(50, 2, 1)", 5)
                .asks("spilt(2, 0)", 1).asks("spilt(2, 1)", 5).asks("round(50, 2, 0)", 3).asks("round(50, 2, 1)", 35)
                .asks("worst(0, 5, 0)", 2).asks("worst(0, 5, 1)", 30).asks("worst(1, 5, 0)", 1).asks("worst(1, 5, 1)", 50)
                .asks("mean(0)", -25).asks("mean(1)", 1);
    }

    private static void toldDays() {
        Doc.says(Doc.WHAT_IT_IS, "told days of one: the one that is otherwise, of which kind one is, in which mood one was,"
                + " how cold, whose a glass was, whose they are, by which text;");
        two().does("film(0, 0, 2)", 2).asks("judge(0, 0)", -1).does("cell(0, 1, -14)", 1).asks("judge(0, 0)", 1);
        two().does("film(0, 0, 2)", 2).asks("kinds(0, 0, 0)", 3).asks("kinds(0, 0, 1)", 1023)
                .asks("states(0, 0, 0, 0)", 1).asks("states(0, 0, 0, 1)", 10)
                .asks("states(0, 0, 1, 0)", 100).asks("states(0, 0, 1, 1)", 0).asks("owners(0, 0)", 0).asks("who(0)", 1);
        // glass 2 was 1's
        two().then("sheet(1, 0, 2)", "cell(1, 0, -25)", "cell(1, 1, -25)")
                .asks("judge(1, 1)", 0).asks("owners(1, 1)", 4).asks("who(1)", 0);
        two().does("film(0, 0, 2)", 2).text("melts 11;feels weight;chills 0;", 1).text("melts 9;feels weight;chills 5;", 2)
                .asks("laws(0, 0)", 3);
    }

    private static void lotsAndImages() {
        Doc.says(Doc.WHAT_IT_IS, "orders by lots; images.");
        Run x = Run.under("melts 99;feels 1;chills 0;");
        for (int p = 0; p < 6; p++) {
            x.then("guest(0, 0)");
        }
        x.asks("drawn(0, 0)", 8).asks("drawn(99999, 0)", 8).asks("drawn(0, 1)", 0);
        x.asks("odds(0, 40, 8, 0)", 1).asks("odds(0, 40, 8, 1)", 1).asks("odds(0, 40, 9, 0)", 0);
        Run.of("guest(0, 1)", "order(0, 2, 10)").does("image()", 1).then("guest(0, 3)", "put(0, 0, 4)").does("day()", 1)
                .does("back()", 1).asks("told(0, 0)", 1).asks("glass(0, 2)", 10).asks("count(2)", 0).refuses("told(1, 0)", -5000);
    }

    private static void calls() {
        Doc.says(Doc.WHAT_IT_IS, "An object is used for at most 512 calls after it has been made; what later calls answer is free.");
        Run x = Run.of("guest(0, 0)", "image()");
        for (int i = 2; i < 511; i++) {
            x.then(i % 2 == 0 ? "order(0, 1, 10)" : "day()");
        }
        // the last: as it was 510 calls ago
        x.does("back()", 1);
        IcedTooSoon later = new IcedTooSoon();
        int came = 0;
        for (int i = 0; i < 5000; i++) {
            came += later.guest(0, 0) >= 0 ? 1 : 0;
            later.feed(5, 40, 40, 40, 40, 40);
            later.text();
            later.order(0, 1, 10);
            later.day();
        }
        Due.is(Doc.now() + "later calls end, and so", came > 0 ? 1 : 0, 1);
    }

    private static void face() {
        String source = "";
        try {
            source = Files.readString(Path.of(SOURCE));
        } catch (IOException e) {
            Due.is("the class can be read: " + e, 0, 1);
        }
        for (String line : FACE.strip().split("\n")) {
            Doc.says(Doc.FACE, line);
            String written = line.endsWith(");") ? line.replace(");", ") {") : line;
            Due.is(Doc.now() + "is written so", source.contains(written) ? 1 : 0, 1);
        }
    }

    private static void notPromised() {
        Doc.says(Doc.NOT_PROMISED, "How the state is held inside the object is free, as are the speed of each call,"
                + " the text of toString and the behaviour of equals and hashCode."
                + " Use of one object from several threads at once is not promised to be safe."
                + " Nothing is promised beyond the answers and state changes described above,"
                + " and nothing about an object after its 512th call.");
        // what is told to one object, another doesn't hear
        Run x = two();
        Run y = Run.under("melts 7;feels 8;chills 9;").then("guest(59, -1)", "order(0, 3, 4)", "sheet(0, 2, 3)", "image()");
        x.asks("count(3)", 1).asks("count(4)", 0).refuses("back()", -3).refuses("judge(0, 0)", -11).asks("run(2, 10)", -15);
        x.does("day()", 6).does("film(0, 0, 1)", 1).then("feed(1, 40, 0, 0, 0, 0)");
        y.asks("told(0, 0)", -1).asks("glass(0, 2)", 4).asks("count(2)", 0).asks("count(5)", 0).refuses("cell(0, 3, 0)", -12);
    }
}
