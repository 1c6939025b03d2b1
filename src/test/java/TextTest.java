/** Promise 5: texts, their faults, and what they say. */
public final class TextTest {
    private static final String REST = ";feels 0;chills 0;";

    public static void main(String[] args) {
        numbers();
        faults();
        open();
        sizes();
        values();
        Due.end();
    }

    private static void numbers() {
        IcedTooSoon x = new IcedTooSoon();
        Due.is("5: empty", x.text(), -100);
        for (int t = 1; t < 6; t++) {
            Due.is("5: the next number", Due.text(x, Due.ORDINARY), t);
            Due.is("5: the tape is empty then", x.count(5), 0);
            Due.is("5: texts", x.count(3), t + 1);
            if (t < 5) {
                Due.is("5: a fault", Due.text(x, "melts ?"), -106);
                Due.is("5: the tape is empty then, too", x.count(5), 0);
            }
        }
        Due.is("5: a seventh", Due.text(x, Due.ORDINARY), IcedTooSoon.FULL);
        Due.is("5: the tape stays", x.count(5), Due.ORDINARY.length());
        Due.is("5: FULL ahead of the fault", Due.text(x, "?"), IcedTooSoon.FULL);
        Due.is("5: the tape stays", x.count(5), Due.ORDINARY.length() + 1);
        Due.is("5: six", x.count(3), 6);
    }

    /** The fault is where the first ! stands, which is left out. */
    private static void fault(String marked) {
        int place = marked.indexOf('!');
        String text = marked.substring(0, place) + marked.substring(place + 1);
        Due.is("5: [" + text + "]", Due.text(new IcedTooSoon(), text), -100 - place);
    }

    private static void good(String text) {
        Due.is("5: [" + text + "]", Due.text(new IcedTooSoon(), text), 1);
    }

    private static void faults() {
        good("melts 1;feels 2;chills 3;");
        good("melts1;feels2;chills3;");
        good(" \n melts\n1\n;feels 2 ; chills 3 ; \n");
        good("melts weight+ice-cold*mood<day;feels more;chills(1);");
        good("melts 9999;feels 0000;chills 0001;");
        good("melts not 1 or not not 2 and 3 < 4 or 5 = - 6" + REST);
        fault("   !");
        fault("!1");
        fault("!feels 1;");
        fault("!weight");
        fault("!meltsx 1;");
        fault("!melt 1;");
        fault("melts 1!");
        fault("melts 1 !");
        fault("melts 1 \n!");
        fault("melts!");
        fault("melts !;");
        fault("melts 1;!melts 1;");
        fault("melts 1;!chills 1;");
        fault("melts 1;feels 2;!");
        fault("melts 1;feels 2;chills 3!");
        fault("melts 1;feels 2;chills 3;!;");
        fault("melts 1;feels 2;chills 3; !melts 1;");
        fault("melts 1;feels 2;chills 3; \n!A");
        fault("melts !12345" + REST);
        fault("melts !00001" + REST);
        fault("melts !icecold" + REST);
        fault("melts !ices" + REST);
        fault("melts !icez" + REST);
        fault("melts !nay" + REST);
        fault("melts !das" + REST);
        fault("melts ice !cold" + REST);
        fault("melts 1 !2" + REST);
        fault("melts 1!ice" + REST);
        fault("melts 1 !not 2" + REST);
        fault("melts 1 < !not 2" + REST);
        fault("melts 1 + !not 2" + REST);
        fault("melts - !not 2" + REST);
        fault("melts 1 < 2 !< 3" + REST);
        fault("melts 1 = 2 !< 3" + REST);
        fault("melts not 1 = 2 != 3" + REST);
        fault("melts 1 + !+ 2" + REST);
        fault("melts 1 * !* 2" + REST);
        fault("melts !+ 2" + REST);
        fault("melts 1 + !;" + REST);
        fault("melts 1 or !;" + REST);
        fault("melts 1 and !or 2;" + REST);
        fault("melts !or 2;" + REST);
        fault("melts (!)" + REST);
        fault("melts (1!;" + REST);
        fault("melts (1 !2)" + REST);
        fault("melts 1!)" + REST);
        fault("melts (1!");
        fault("melts !Ice" + REST);
        fault("melts !\t1" + REST);
        fault("melts 1 !> 2" + REST);
        fault("melts 1 !/ 2" + REST);
        fault("melts !" + (char) 0 + REST);
        fault("melts 1!" + (char) 225 + REST);
        fault("melts !feels" + REST);
        fault("melts 1 !?12345");
    }

    private static void open() {
        good("melts (((((1)))))" + REST);
        fault("melts (((((!(1))))))" + REST);
        good("melts -----1" + REST);
        fault("melts -----!-1" + REST);
        good("melts 1------1" + REST);
        fault("melts 1------!-1" + REST);
        good("melts not not not not not 1" + REST);
        fault("melts not not not not not !not 1" + REST);
        good("melts not(-(not 1))" + REST);
        fault("melts not(-(not !-1))" + REST);
        fault("melts not(-(not !(1)))" + REST);
        fault("melts not(-(-!-1))" + REST);
        fault("melts (((((!not 1)))))" + REST);
        good("melts ((((not 1))))" + REST);
        good("melts (((((1)))))*(((((1)))))" + REST);
        good("melts -----1*-----1+-----1" + REST);
        good("melts not not not not not 1 and not not not not not 1" + REST);
        good("melts not not not not -1 < -1 + -1" + REST);
        fault("melts not not not not not 1 < !-1" + REST);
        good("melts not not not not not 1 or -----1" + REST);
        good("melts ((((-1 + (1))))) or (not 1)" + REST);
        good("melts ((((1) + -1) - (2)) * -(3))" + REST);
        fault("melts (((((1)))));feels ((((( !(1;");
    }

    private static void sizes() {
        good(longest("melts 1" + REST, " ", 160));
        fault(longest("melts 1", "+1", 160) + "!");
        String sum = longest("melts 0;feels 1", "+1", 150);
        IcedTooSoon x = Due.under(sum + ";chills 0;");
        x.guest(0, 0);
        x.order(0, 0, 1);
        Due.is("5: a long sum", x.asks(1, 0), (sum.length() - "melts 0;feels ".length() + 1) / 2);
    }

    private static String longest(String head, String more, int size) {
        StringBuilder text = new StringBuilder(head);
        while (text.length() + more.length() <= size) {
            text.append(more);
        }
        return text.toString();
    }

    /** What feels says of a glass of WEIGHT -40, ICE 30, COLD 20, MOOD 10, DAY 5, MORE 7. */
    private static void value(String e, int due) {
        IcedTooSoon x = new IcedTooSoon();
        x.guest(7, 10);
        x.order(0, -40, 30);
        x.put(0, 1, 20);
        x.dawn(5);
        x.force(Due.text(x, "melts 1;feels " + e + ";chills 2;"));
        Due.is("5: " + e, x.asks(1, 0), due);
        Due.is("5: melts beside " + e, x.asks(0, 0), 1);
        Due.is("5: chills beside " + e, x.asks(2, 0), 2);
    }

    private static void values() {
        value("weight", -40);
        value("ice", 30);
        value("cold", 20);
        value("mood", 10);
        value("day", 5);
        value("more", 7);
        value("0042", 42);
        value("1 + 2 * 3", 7);
        value("(1 + 2) * 3", 9);
        value("10 - 3 - 2", 5);
        value("10 - (3 - 2)", 9);
        value("- 3 * - 4", 12);
        value("2 - - 3", 5);
        value("3 or 0", 1);
        value("0 or 0", 0);
        value("0 or 0 or 9", 1);
        value("3 and 4", 1);
        value("3 and 0", 0);
        value("0 and 1 or 2", 1);
        value("2 or 1 and 0", 1);
        value("(2 or 1) and 0", 0);
        value("not 3", 0);
        value("not 0", 1);
        value("not not 7", 1);
        value("not 0 + 0", 1);
        value("not 1 = 2", 1);
        value("not 1 and 0", 0);
        value("(not 1) = 0", 1);
        value("1 < 2", 1);
        value("2 < 2", 0);
        value("3 < 2", 0);
        value("- 1 < 0", 1);
        value("2 = 2", 1);
        value("2 = 3", 0);
        value("1 + 1 = 2", 1);
        value("(1 < 2) + (2 = 2) + 3", 5);
        value("(3)", 3);
        value("ice * (cold < 21) + 9", 39);
        value("9999 * 9999", 99);
        value("9999 * 9999 * 50", 99);
        value("4096 * 4096 * 256", 0);
        value("4096 * 4096 * 128", -99);
        value("4096 * 4096 * 128 - 1", 99);
        value("4096 * 4096 * 128 < 0", 1);
        value("- (4096 * 4096 * 128) < 0", 1);
        value("4096 * 4096 * 256 + 7", 7);
        value("1 or 1+(2*(1<(0 or 1)))", 1);
        String each = "0or 1and 0<1+2*(";
        value(each + each + each + each + each + "0or 1and 0<1+2*7)))))", 1);
        each = "more+2*(";
        value(each + each + "1+2*(1+2*(1+2*(1<1+1*1)))))", 81);
        value("0 or 0 and 0 < 0 + 1 * (0 or 1 and 0 < 0 + 1 * (0 or 1 and 0 < 1 + 1 * (2)))", 0);
        value("1 and 0 < 3 * (0 or 1 and 1 < 1 + 1 * (0 or 1 and 1 < 2 + 3 * (0 or 1 and 1 < 2)))", 1);
    }
}
