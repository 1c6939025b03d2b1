/** The edges that the document's terms name of texts: tokens, grammar, faults, what a text says. */
final class EdgesOfTexts {
    private static final String REST = ";feels 0;chills 0;";

    private EdgesOfTexts() {
    }

    static void all() {
        tape();
        words();
        numbers();
        signs();
        blanks();
        parts();
        grammar();
        names();
        ints();
        truths();
        faultPlaces();
        faultBytes();
        faultOpen();
        faultOpenTill();
        manyTexts();
        law();
        lawOfAGlass();
    }

    private static void good(String text) {
        Due.is(Doc.now() + "[" + text + "]", Due.text(new IcedTooSoon(), text), 1);
    }

    /** The fault is where the first ! stands, which is left out. */
    private static void fault(String marked) {
        int place = marked.indexOf('!');
        String text = marked.substring(0, place) + marked.substring(place + 1);
        Due.is(Doc.now() + "[" + text + "]", Due.text(new IcedTooSoon(), text), -100 - place);
    }

    /** What feels says of a glass of WEIGHT -40, ICE 30, COLD 20, MOOD 10, DAY 5, MORE 7. */
    private static void value(String e, int due) {
        IcedTooSoon x = new IcedTooSoon();
        x.guest(7, 10);
        x.order(0, -40, 30);
        x.put(0, 1, 20);
        x.dawn(5);
        x.force(Due.text(x, "melts 1;feels " + e + ";chills 2;"));
        Due.is(Doc.now() + "[" + e + "]", x.asks(1, 0), due);
    }

    private static String padded(String head, int size, String tail) {
        return head + " ".repeat(size - head.length() - tail.length()) + tail;
    }

    private static void tape() {
        Doc.says(Doc.TERMS, "A TEXT is read from THE TAPE (160 bytes at most).");
        good(padded("melts 1;feels 2;chills 3;", 160, ""));
        good(padded("melts 1;feels 2;", 160, "chills 3;"));
        fault(padded("melts 1;feels 2;chills 3", 160, "") + "!");
        fault(padded("melts 1;feels 2;chills 3;", 159, "") + "!;");
        fault("!" + padded("?", 160, ""));
        Run x = new Run().feed(padded("melts 1;feels 2;chills 3;", 160, "")).refuses("feed(1, 32, 0, 0, 0, 0)", -4);
        x.does("text()", 1).asks("count(5)", 0);
        new Run().feed(padded("melts 1;feels 2;chills 3;", 159, "")).refuses("feed(2, 32, 32, 0, 0, 0)", -4)
                .does("feed(1, 32, 0, 0, 0, 0)", 160).does("text()", 1);
    }

    private static void words() {
        Doc.says(Doc.TERMS, "TOKENS, each as long as can be: WORDS (a .. z),");
        fault("!meltsa 1" + REST);
        fault("!meltsz 1" + REST);
        fault("melts!` 1" + REST);
        fault("melts!{ 1" + REST);
        fault("melts!A 1" + REST);
        fault("melts!Z 1" + REST);
        fault("!meltsice" + REST);
        fault("melts !icecold" + REST);
        fault("melts !notice" + REST);
        fault("melts 1 !orice" + REST);
        fault("melts 1 !orand ice" + REST);
        good("melts(1)or(2)and(3)" + REST);
        good("melts not(1)" + REST);
        good("melts 1or 2and 3" + REST);
        good("melts1or1and1" + REST);
    }

    private static void numbers() {
        Doc.says(Doc.TERMS, "NUMBERS (digits, 4 at most),");
        good("melts 0" + REST);
        good("melts 9999" + REST);
        good("melts 0000" + REST);
        fault("melts !00000" + REST);
        fault("melts !99999" + REST);
        fault("melts !1234567890" + REST);
        fault("melts 1234 !5" + REST);
        fault("melts 1!/" + REST);
        fault("melts 1!:" + REST);
        fault("melts 1234!ice" + REST);
        value("0009", 9);
        value("0099", 99);
        value("9999-9990", 9);
        value("1234-1200", 34);
    }

    private static void signs() {
        Doc.says(Doc.TERMS, "SIGNS ( ) ; + - * < = ;");
        good("melts((1)+2-3*4<5)" + REST);
        good("melts(1=2)" + REST);
        for (char c : "!\"#$%&',./:>?@[\\]^_`{|}~".toCharArray()) {
            String text = "melts 1" + c + "2" + REST;
            Due.is(Doc.now() + "[" + text + "]", Due.text(new IcedTooSoon(), text), -107);
        }
        fault("melts 1<!=2" + REST);
        fault("melts 1=!=2" + REST);
    }

    private static void blanks() {
        Doc.says(Doc.TERMS, "blanks (32, 10) may stand between.");
        good("  melts\n\n1\n ;\nfeels \n2 ; chills\n3\n;\n ");
        good("\nmelts ( 1 )\n*\n( 2 )" + REST);
        fault("!mel ts 1" + REST);
        fault("melts 1 !2" + REST);
        fault("melts !ic e" + REST);
        for (int b : new int[] {0, 9, 11, 12, 13, 31, 33, 127, 160, 255}) {
            String text = "melts" + (char) b + "1" + REST;
            Due.is(Doc.now() + "byte " + b, Due.text(new IcedTooSoon(), text), -105);
        }
    }

    private static void parts() {
        Doc.says(Doc.TERMS, "TEXT: melts E ; feels E ; chills E ;");
        good("melts 1;feels 2;chills 3;");
        fault("!feels 1;feels 2;chills 3;");
        fault("!chills 1;feels 2;chills 3;");
        fault("!1;feels 2;chills 3;");
        fault("!;");
        fault("melts 1;!melts 2;chills 3;");
        fault("melts 1;!chills 2;feels 3;");
        fault("melts 1;feels 2;!melts 3;");
        fault("melts 1;feels 2;!feels 3;");
        fault("melts 1;feels 2;!;");
        fault("melts 1 !feels 2;chills 3;");
        fault("melts 1;feels 2 !chills 3;");
        fault("melts 1;!;feels 2;chills 3;");
        fault("melts 1;feels 2;chills 3;!;");
        fault("melts 1;feels 2;chills 3;!1");
        fault("melts 1;feels 2;chills 3; !melts 1;feels 2;chills 3;");
        fault("melts !;feels 2;chills 3;");
        fault("melts 1;feels !;chills 3;");
        fault("melts 1;feels 2;chills !;");
    }

    private static void grammar() {
        Doc.says(Doc.TERMS, "E: AND { or AND }.");
        good("melts 1 or 2 or 3" + REST);
        fault("melts !or 1" + REST);
        fault("melts 1 or !or 2" + REST);
        fault("melts 1 or !" + REST);
        value("0 or 0 and 1 or 5", 1);
        value("1 or 0 and 0", 1);

        Doc.says(Doc.TERMS, "AND: NOT { and NOT }.");
        good("melts 1 and 2 and not 3" + REST);
        fault("melts !and 1" + REST);
        fault("melts 1 and !or 2" + REST);
        fault("melts 1 and !" + REST);
        value("1 and not 0 and 2", 1);
        value("not 1 and 0", 0);

        Doc.says(Doc.TERMS, "NOT: not NOT, or SUM, perhaps < or = and a SUM.");
        good("melts not not 1 < 2" + REST);
        fault("melts 1 < !not 2" + REST);
        fault("melts 1 = !not 2" + REST);
        fault("melts 1 < 2 !< 3" + REST);
        fault("melts 1 = 2 != 3" + REST);
        fault("melts 1 < 2 != 3" + REST);
        fault("melts not 1 = 2 !< 3" + REST);
        fault("melts !< 2" + REST);
        fault("melts not !" + REST);
        value("not 2 < 1", 1);
        value("not 0 = 0", 0);
        value("not 3 + 0", 0);
        value("1 + 1 < 2 + 1", 1);

        Doc.says(Doc.TERMS, "SUM: TERM { + or - TERM }.");
        good("melts 1 + 2 - 3 + 4" + REST);
        fault("melts !+ 1" + REST);
        fault("melts 1 + !+ 2" + REST);
        fault("melts 1 - !" + REST);
        fault("melts 1 + !not 2" + REST);
        value("9 - 4 - 3", 2);
        value("9 - 4 + 3", 8);
        value("1 + 2 * 3 - 4 * 5", -13);

        Doc.says(Doc.TERMS, "TERM: ONE { * ONE }.");
        good("melts 1 * 2 * 3" + REST);
        fault("melts !* 1" + REST);
        fault("melts 1 * !* 2" + REST);
        fault("melts 1 * !" + REST);
        fault("melts 2 * !not 2" + REST);
        value("2 * 3 * 4", 24);

        Doc.says(Doc.TERMS, "ONE: a NUMBER, a NAME, - ONE, ( E ).");
        good("melts 1" + REST);
        good("melts ice" + REST);
        good("melts -1" + REST);
        good("melts --ice" + REST);
        good("melts -(1)" + REST);
        good("melts (1 or 2)" + REST);
        good("melts (not 1)" + REST);
        fault("melts (!)" + REST);
        fault("melts (1!" + REST);
        fault("melts (1!");
        fault("melts 1!)" + REST);
        fault("melts (1)!)" + REST);
        fault("melts ((1)!" + REST);
        fault("melts - !" + REST);
        fault("melts - !+ 1" + REST);
        fault("melts - !not 1" + REST);
        fault("melts 1 !(2)" + REST);
        fault("melts (1)!(2)" + REST);
        fault("melts ice !ice" + REST);
        value("2 * - 3", -6);
        value("- 2 * 3", -6);
        value("- (2 + 3)", -5);
        value("- - 4", 4);
        value("4 - - - 1", 3);
        value("(1 or 0) + (not 0) * 2", 3);
    }

    private static void names() {
        Doc.says(Doc.TERMS, "NAMES: weight ice cold mood day more.");
        String[] all = {"weight", "ice", "cold", "mood", "day", "more"};
        int[] due = {-40, 30, 20, 10, 5, 7};
        for (int i = 0; i < all.length; i++) {
            value(all[i], due[i]);
            fault("melts !" + all[i] + "s" + REST);
            fault("melts !" + all[i].substring(1) + REST);
            fault("melts !" + all[i].substring(0, all[i].length() - 1) + REST);
            fault("!" + all[i] + " 1" + REST);
        }
        for (String key : new String[] {"melts", "feels", "chills", "or", "and"}) {
            fault("melts !" + key + REST);
        }
    }

    private static void ints() {
        Doc.says(Doc.TERMS, "An E is an int (32 bits, wrapping):");
        // 2147483647 is 4096 * 4096 * 128 - 1
        value("4096 * 4096 * 128 - 1", 99);
        value("4096 * 4096 * 128", -99);
        value("4096 * 4096 * 128 = -(4096 * 4096 * 128)", 1);
        value("4096 * 4096 * 256", 0);
        value("4096 * 4096 * 256 + 7", 7);
        value("0 - 4096 * 4096 * 128 - 1", 99);
        value("4096 * 4096 * 128 - 1 < 4096 * 4096 * 128", 0);
        value("4096 * 4096 * 128 < 4096 * 4096 * 128 - 1", 1);
        value("-(4096 * 4096 * 128) < 0", 1);
        value("4096 * 4096 * -128 - 1 = 4096 * 4096 * 128 - 1", 1);
        // 9999 * 9999 * 50 is 4999000050, less 2 ** 32: 704032754
        value("9999 * 9999 * 50 - 9999 * 9999 * 7 - 9999 * 417 - 3160", 4);
        value("9999 * 9999 * 22 < 0", 1);
        value("9999 * 9999 * 21 < 0", 0);
        value("weight * 0 - 40 = weight", 1);
    }

    private static void truths() {
        Doc.says(Doc.TERMS, "of or, and, not, <, = 1 or 0 (what is not 0 is true).");
        int[][] two = {{0, 0}, {0, 1}, {1, 0}, {2, 3}, {-1, 0}, {0, -1}, {-1, -1}, {5, 5}, {-5, 5}, {5, -5}};
        for (int[] t : two) {
            String a = Integer.toString(t[0]);
            String b = Integer.toString(t[1]);
            value(a + " or " + b, t[0] != 0 || t[1] != 0 ? 1 : 0);
            value(a + " and " + b, t[0] != 0 && t[1] != 0 ? 1 : 0);
            value(a + " < " + b, t[0] < t[1] ? 1 : 0);
            value(a + " = " + b, t[0] == t[1] ? 1 : 0);
            value("not " + a, t[0] == 0 ? 1 : 0);
            value("not not " + b, t[1] != 0 ? 1 : 0);
        }
        value("4096 * 4096 * 128 or 0", 1);
        value("not 4096 * 4096 * 256", 1);
    }

    private static void faultPlaces() {
        Doc.says(Doc.TERMS, "FAULT: the place of the first byte of the first TOKEN that can't stand there"
                + " (the text's size, if it ends too early),");
        fault("!");
        fault("!)");
        fault(" !)");
        fault("\n\n !weight");
        fault("melts 1 \n !weight" + REST);
        fault("melts 1 + !;feels ?;");
        fault("melts 1 !) ) ) ?");
        fault("   !");
        fault("melts!");
        fault("melts  \n!");
        fault("melts 1!");
        fault("melts (!");
        fault("melts not!");
        fault("melts -!");
        fault("melts 1 <!");
        fault("melts 1 or !");
        fault("melts 1; !");
        fault("melts 1;feels 2;!");
        fault("melts 1;feels 2;chills 3!");
        fault("melts 1;feels 2;chills 3  !");
    }

    private static void faultBytes() {
        Doc.says(Doc.TERMS, "also of a byte that begins none,");
        for (int b = 0; b < 256; b++) {
            char c = (char) b;
            boolean begins = c >= 'a' && c <= 'z' || c >= '0' && c <= '9' || "();+-*<= \n".indexOf(c) >= 0;
            if (!begins) {
                Due.is(Doc.now() + "byte " + b + " first", Due.text(new IcedTooSoon(), c + "melts 1" + REST), -100);
                Due.is(Doc.now() + "byte " + b, Due.text(new IcedTooSoon(), "melts 1 " + c + REST), -108);
                Due.is(Doc.now() + "byte " + b + " last", Due.text(new IcedTooSoon(), "melts 1" + REST + c), -125);
            }
        }

        Doc.says(Doc.TERMS, "of a WORD that is neither KEY nor NAME,");
        for (String word : new String[] {"a", "z", "x", "melt", "meltss", "feel", "chill", "no", "o", "an", "ors", "ands", "nots"}) {
            fault("!" + word + " 1" + REST);
            fault("melts !" + word + REST);
            fault("melts 1 !" + word + " 2" + REST);
            fault("melts 1;!" + word + " 0;chills 0;");
        }

        fault("melts (!x)" + REST);
        fault("melts -!x" + REST);
        fault("melts not !x" + REST);
        fault("melts 1 or !x" + REST);
        fault("melts 1;!x;");
        oneLetterOff();

        Doc.says(Doc.TERMS, "a NUMBER that is too long,");
        good("melts 1234" + REST);
        fault("melts !12345" + REST);
        fault("melts ice+!12345" + REST);
        fault("melts ice !12345" + REST);
        fault("melts !00000000000000000000" + REST);
        fault("melts !4294967297" + REST);
    }

    /** Each word with another letter, a letter more, a letter less, at each of its places. */
    private static void oneLetterOff() {
        String[] heads = {"", "melts 1;", "melts 1;feels 2;", "melts 1 ", "melts 1 ", "melts ", "melts ", "melts ", "melts ", "melts ",
            "melts ", "melts "};
        String[] words = {"melts", "feels", "chills", "or", "and", "not", "weight", "ice", "cold", "mood", "day", "more"};
        for (int w = 0; w < words.length; w++) {
            String word = words[w];
            for (int i = 0; i < word.length(); i++) {
                String before = word.substring(0, i);
                String after = word.substring(i + 1);
                char next = word.charAt(i) == 'z' ? 'a' : (char) (word.charAt(i) + 1);
                fault(heads[w] + "!" + before + next + after + " 1;");
                fault(heads[w] + "!" + before + "q" + word.substring(i) + " 1;");
                fault(heads[w] + "!" + before + after + " 1;");
            }
        }
    }

    private static void faultOpen() {
        Doc.says(Doc.TERMS, "a ( , a not, a - ahead of a ONE while 5 of these are open");
        good("melts (((((1)))))" + REST);
        fault("melts (((((!(1))))))" + REST);
        good("melts -----1" + REST);
        fault("melts -----!-1" + REST);
        good("melts not not not not not 1" + REST);
        fault("melts not not not not not !not 1" + REST);
        String[] opens = {"(", "not ", "-"};
        for (String a : opens) {
            // a - is ahead of a ONE, and a not is none
            boolean holds = !a.equals("-");
            for (String b : opens) {
                String four = a.equals("-") ? "(((" : "((";
                if (holds || !b.equals("not ")) {
                    String head = "melts " + four + a + (four.length() == 2 ? "(" : "") + b;
                    String tail = ")".repeat(head.replaceAll("[^(]", "").length()) + REST;
                    good(head + "1" + tail);
                    fault(head + "!(1)" + tail);
                    fault(head + "!-1" + tail);
                    fault(head + "!not 1" + tail);
                }
            }
        }
        // a - between two is none of these
        good("melts (((((1-1)))))" + REST);
        good("melts not not not not not 1-1" + REST);
        fault("melts (((((1-!-1)))))" + REST);
        good("melts ((((1--1))))" + REST);
    }

    private static void faultOpenTill() {
        Doc.says(Doc.TERMS, "(a ( till its ) , not and - till what they belong to ends).");
        good("melts (((((1)))))+(((((1)))))" + REST);
        good("melts ((((1)+(2))))" + REST);
        good("melts (((((1)+2))))*(((3)))" + REST);
        fault("melts ((((1)+((!(1))))))" + REST);
        good("melts -----1*-----1+-----1<-----1" + REST);
        good("melts ----1*(1)" + REST);
        good("melts -(-(-1))*-----1" + REST);
        good("melts ----(1)" + REST);
        fault("melts ----(!-1)" + REST);
        good("melts not not not not not 1 and not not not not not 1" + REST);
        good("melts not not not not not 1 or (((((1)))))" + REST);
        good("melts not not not not 1 < (1)" + REST);
        fault("melts not not not not not 1 < !(1)" + REST);
        fault("melts not not not not not 1 + !-1" + REST);
        fault("melts not not not not not 1 * !(1)" + REST);
        fault("melts not not not not not ice = !-1" + REST);
        good("melts not not not not -1 < -1 + -1" + REST);
        good("melts (not not not not 1)+(not not not not 1)" + REST);
        // each part begins with none open
        good("melts not not not not not 1;feels -----1;chills (((((1)))));");
        fault("melts (((((1)))));feels -----!-1;chills 0;");
    }

    private static void manyTexts() {
        Doc.says(Doc.TERMS, "TEXTS are numbered from 0 on, 6 at most; TEXT 0, at first, and THE LAW:"
                + " melts 10 ; feels weight ; chills 5 ;");
        Run x = Run.of("guest(0, 0)", "order(0, -33, 50)");
        x.asks("count(3)", 1).asks("count(4)", 0).asks("asks(0, 0)", 10).asks("asks(1, 0)", -33).asks("asks(2, 0)", 5);
        for (int t = 1; t < 6; t++) {
            x.refuses("force(" + t + ")", -2).text("melts " + t + REST, t).asks("count(3)", t + 1).asks("count(4)", 0);
        }
        x.feed("melts 6" + REST).refuses("text()", -4).refuses("force(6)", -2);
        for (int t = 1; t < 6; t++) {
            x.does("force(" + t + ")", t - 1).asks("asks(0, 0)", t);
        }
        x.does("force(0)", 5).asks("asks(0, 0)", 10);
    }

    private static void law() {
        Doc.says(Doc.TERMS, "(melts, chills 0 .. 99, feels -99 .. 99, else the bound),");
        int[][] said = {{0, 0, 0}, {1, 1, 1}, {-1, 0, -1}, {98, 98, 98}, {99, 99, 99}, {100, 99, 99}, {9999, 99, 99},
            {-98, 0, -98}, {-99, 0, -99}, {-100, 0, -99}, {-9999, 0, -99}};
        for (int[] s : said) {
            Run x = Run.under("melts " + s[0] + ";feels " + s[0] + ";chills " + s[0] + ";").then("guest(0, 0)", "order(0, 0, 50)");
            x.asks("asks(0, 0)", s[1]).asks("asks(1, 0)", s[2]).asks("asks(2, 0)", s[1]);
        }
        // the bound is ahead of what a kind makes of it: 99 and 9, twice; not 99, nor twice 109
        Run.under("melts 100;feels 100;chills 100;").then("guest(39, 0)", "order(0, 0, 50)").asks("glass(0, 4)", 216)
                .asks("glass(0, 5)", 49);
        Run.under("melts 100;feels -100;chills 100;").then("guest(49, 0)", "order(0, 0, 50)", "put(0, 1, 0)")
                .asks("glass(0, 3)", 108).asks("glass(0, 4)", -49).asks("glass(0, 5)", 108);
        Run.under("melts -5;feels 0;chills -5;").then("guest(49, 0)", "order(0, 0, 50)").asks("glass(0, 3)", 9)
                .asks("glass(0, 5)", 9);
        Run.under("melts 0;feels -200;chills 0;").then("guest(59, 0)", "order(0, 0, 50)").asks("glass(0, 4)", 99);
    }

    private static void lawOfAGlass() {
        Doc.says(Doc.TERMS, "of a GLASS: weight: WEIGHT; ice: ICE; cold: COLD, mood: MOOD, more: MORE of whose it is; day: DAY.");
        String[] low = {"weight", "-99", "ice", "1", "cold", "0", "mood", "-99", "day", "0", "more", "0"};
        String[] high = {"weight", "99", "ice", "99", "cold", "99", "mood", "99", "day-900", "99", "more", "9"};
        for (int i = 0; i < low.length; i += 2) {
            Run.under("melts 0;feels " + low[i] + ";chills 0;").then("guest(9, 44)", "guest(0, -99)", "put(0, 1, 44)",
                    "order(0, 44, 44)", "order(1, -99, 1)").asks("asks(1, 1)", Integer.parseInt(low[i + 1]));
            Run.under("melts 0;feels " + high[i] + ";chills 0;").then("guest(4, 44)", "guest(9, 99)", "put(1, 1, 99)",
                    "order(0, 44, 44)", "order(1, 99, 99)", "dawn(999)").asks("asks(1, 1)", Integer.parseInt(high[i + 1]));
        }
    }
}
