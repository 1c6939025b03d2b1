/** Promises 1 to 4 and 6 to 12: guests, glasses, the law. */
public final class GuestsTest {
    public static void main(String[] args) {
        newObject();
        count();
        dawn();
        feed();
        force();
        asks();
        guest();
        order();
        put();
        told();
        glass();
        kinds();
        Due.end();
    }

    private static void newObject() {
        IcedTooSoon x = new IcedTooSoon();
        int[] counts = {0, 0, 0, 1, 0, 0};
        for (int what = 0; what < counts.length; what++) {
            Due.is("1: new, count(" + what + ")", x.count(what), counts[what]);
        }
        for (int i = 0; i < 16; i++) {
            Due.is("1: new, taken(" + i + ", 0)", x.taken(i, 0), -1100);
        }
        for (int s = 0; s < 4; s++) {
            Due.is("1: new, cell(" + s + ", 0, 0)", x.cell(s, 0, 0), -11);
        }
        Due.is("1: new, back()", x.back(), IcedTooSoon.STATE);
    }

    private static void count() {
        IcedTooSoon x = Due.under("melts 1;feels 2;chills 3;");
        x.guest(0, 0);
        x.guest(0, 0);
        x.order(0, 1, 50);
        x.order(0, 1, 1);
        x.order(1, 1, 50);
        Due.is("2: count(1), three ordered", x.count(1), 3);
        x.day();
        x.feed(3, 1, 2, 3, 4, 5);
        int[] counts = {2, 2, 1, 2, 1, 3};
        for (int what = 0; what < counts.length; what++) {
            Due.is("2: count(" + what + ")", x.count(what), counts[what]);
        }
        for (int what : new int[] {-1, 6, Integer.MIN_VALUE, Integer.MAX_VALUE}) {
            Due.is("2: count(" + what + ")", x.count(what), IcedTooSoon.BAD);
        }
    }

    private static void dawn() {
        IcedTooSoon x = new IcedTooSoon();
        Due.is("3: dawn(-1)", x.dawn(-1), IcedTooSoon.BAD);
        Due.is("3: dawn(1000)", x.dawn(1000), IcedTooSoon.BAD);
        Due.is("3: dawn(999)", x.dawn(999), 0);
        Due.is("3: count(2)", x.count(2), 999);
        Due.is("3: dawn(0)", x.dawn(0), 999);
        Due.is("3: dawn(7)", x.dawn(7), 0);
        Due.is("3: dawn(1000) again", x.dawn(1000), IcedTooSoon.BAD);
        Due.is("3: a refusal changes nothing", x.count(2), 7);
    }

    private static void feed() {
        IcedTooSoon x = new IcedTooSoon();
        Due.is("4: n 0", x.feed(0, 1, 1, 1, 1, 1), IcedTooSoon.BAD);
        Due.is("4: n 6", x.feed(6, 1, 1, 1, 1, 1), IcedTooSoon.BAD);
        for (int i = 0; i < 5; i++) {
            for (int b : new int[] {-1, 256}) {
                int[] v = {1, 1, 1, 1, 1};
                v[i] = b;
                Due.is("4: byte " + i + " is " + b, x.feed(1, v[0], v[1], v[2], v[3], v[4]), IcedTooSoon.BAD);
            }
        }
        Due.is("4: none came", x.count(5), 0);
        Due.is("4: 0 and 255 are bytes", x.feed(2, 0, 255, 0, 255, 0), 2);
        for (int i = 1; i <= 31; i++) {
            Due.is("4: by fives", x.feed(5, 32, 32, 32, 32, 32), 2 + 5 * i);
        }
        Due.is("4: 157 and 4", x.feed(4, 32, 32, 32, 32, 32), IcedTooSoon.FULL);
        Due.is("4: BAD ahead of FULL", x.feed(4, 32, 32, 32, 32, 256), IcedTooSoon.BAD);
        Due.is("4: none came", x.count(5), 157);
        Due.is("4: 157 and 3", x.feed(3, 32, 32, 32, 32, 32), 160);
        Due.is("4: 160 and 1", x.feed(1, 32, 32, 32, 32, 32), IcedTooSoon.FULL);

        IcedTooSoon y = new IcedTooSoon();
        y.feed(5, 'm', 'e', 'l', 't', 's');
        y.feed(3, '1', ';', 'f', 'x', 'x');
        y.feed(5, 'e', 'e', 'l', 's', '2');
        y.feed(4, ';', 'c', 'h', 'i', 'x');
        y.feed(5, 'l', 'l', 's', '3', ';');
        Due.is("4: in their order, behind those that were there", y.text(), 1);
    }

    private static void force() {
        IcedTooSoon x = new IcedTooSoon();
        Due.is("6: force(1), none such", x.force(1), IcedTooSoon.BAD);
        Due.is("6: force(-1)", x.force(-1), IcedTooSoon.BAD);
        Due.is("6: force(0)", x.force(0), 0);
        Due.text(x, "melts 1;feels 2;chills 3;");
        Due.is("6: a text isn't yet the law", x.count(4), 0);
        Due.is("6: force(1)", x.force(1), 0);
        Due.is("6: force(2)", x.force(2), IcedTooSoon.BAD);
        Due.is("6: count(4)", x.count(4), 1);
        x.guest(0, 0);
        x.order(0, 50, 50);
        Due.is("6: by the law", x.glass(0, 4), 2);
        Due.is("6: force(0)", x.force(0), 1);
        Due.is("6: by the other", x.glass(0, 4), 50);
    }

    private static void asks() {
        IcedTooSoon x = Due.under("melts 12;feels 0 - 34;chills 56;");
        x.guest(59, 0);
        x.order(0, 5, 5);
        Due.is("7: melts", x.asks(0, 0), 12);
        Due.is("7: feels", x.asks(1, 0), -34);
        Due.is("7: chills", x.asks(2, 0), 56);
        Due.is("7: part -1", x.asks(-1, 0), -1000);
        Due.is("7: part 3", x.asks(3, 0), -1000);
        Due.is("7: no such glass", x.asks(0, 10), -1000);
        Due.is("7: no such glass", x.asks(0, -1), -1000);
        Due.is("7: it isn't there", x.asks(0, 1), -1000);
        x.force(Due.text(x, "melts 100;feels 100;chills 100;"));
        for (int part = 0; part < 3; part++) {
            Due.is("7: at most", x.asks(part, 0), 99);
        }
        x.force(Due.text(x, "melts - 1;feels - 100;chills - 1;"));
        Due.is("7: melts at least", x.asks(0, 0), 0);
        Due.is("7: feels at least", x.asks(1, 0), -99);
        Due.is("7: chills at least", x.asks(2, 0), 0);
    }

    private static void guest() {
        IcedTooSoon x = new IcedTooSoon();
        Due.is("8: kindMore -1", x.guest(-1, 0), IcedTooSoon.BAD);
        Due.is("8: kindMore 60", x.guest(60, 0), IcedTooSoon.BAD);
        Due.is("8: mood -100", x.guest(0, -100), IcedTooSoon.BAD);
        Due.is("8: mood 100", x.guest(0, 100), IcedTooSoon.BAD);
        Due.is("8: none came", x.count(0), 0);
        int[] kindMores = {0, 59, 9, 30, 27, 41};
        int[] moods = {-99, 99, 0, 1, -1, 50};
        for (int p = 0; p < 6; p++) {
            Due.is("8: the number", x.guest(kindMores[p], moods[p]), p);
            Due.is("8: mood", x.told(p, 0), moods[p]);
            Due.is("8: cold", x.told(p, 1), 0);
            Due.is("8: kind", x.told(p, 2), kindMores[p] / 10);
            Due.is("8: more", x.told(p, 3), kindMores[p] % 10);
        }
        Due.is("8: a seventh", x.guest(0, 0), IcedTooSoon.FULL);
        Due.is("8: BAD ahead of FULL", x.guest(60, 0), IcedTooSoon.BAD);
        Due.is("8: six", x.count(0), 6);
    }

    private static void order() {
        IcedTooSoon x = Due.under("melts 0;feels weight;chills weight + ice + 2 * cold;");
        Due.is("9: nobody", x.order(0, 5, 5), -5);
        x.guest(0, 0);
        Due.is("9: p -1", x.order(-1, 5, 5), -5);
        Due.is("9: p 1", x.order(1, 5, 5), -5);
        Due.is("9: none such is told first", x.order(1, 100, 0), -5);
        Due.is("9: heavy -100", x.order(0, -100, 5), -7);
        Due.is("9: heavy 100", x.order(0, 100, 5), -7);
        Due.is("9: much 0", x.order(0, 0, 0), -7);
        Due.is("9: much 100", x.order(0, 0, 100), -7);
        Due.is("9: none came", x.count(1), 0);
        Due.is("9: first", x.order(0, 3, 4), 0);
        Due.is("9: chilled by weight and ice", x.told(0, 1), 7);
        Due.is("9: second", x.order(0, 1, 2), 1);
        Due.is("9: by cold ahead of it", x.told(0, 1), 24);
        Due.is("9: whose", x.glass(1, 0), 0);
        Due.is("9: weight", x.glass(1, 1), 1);
        Due.is("9: ice", x.glass(1, 2), 2);
        Due.is("9: bounds", x.order(0, 99, 99), 2);
        Due.is("9: cold 99 at most", x.told(0, 1), 99);
        for (int g = 3; g < 10; g++) {
            Due.is("9: the next", x.order(0, -99, 1), g);
        }
        Due.is("9: all are there", x.order(0, 0, 5), IcedTooSoon.FULL);
        Due.is("9: -7 ahead of FULL", x.order(0, 0, 0), -7);
        x.spill(7);
        x.spill(4);
        Due.is("9: the first that isn't there", x.order(0, 8, 5), 4);
        Due.is("9: then the other", x.order(0, 9, 5), 7);
    }

    private static void put() {
        IcedTooSoon x = new IcedTooSoon();
        Due.is("10: nobody", x.put(0, 0, 0), -5000);
        x.guest(0, 12);
        Due.is("10: p -1", x.put(-1, 0, 0), -5000);
        Due.is("10: none such is told first", x.put(1, 7, 0), -5000);
        Due.is("10: what -1", x.put(0, -1, 0), -7000);
        Due.is("10: what 2", x.put(0, 2, 0), -7000);
        Due.is("10: mood -100", x.put(0, 0, -100), -7000);
        Due.is("10: mood 100", x.put(0, 0, 100), -7000);
        Due.is("10: cold -1", x.put(0, 1, -1), -7000);
        Due.is("10: cold 100", x.put(0, 1, 100), -7000);
        Due.is("10: mood", x.put(0, 0, -99), 12);
        Due.is("10: mood", x.put(0, 0, 99), -99);
        Due.is("10: cold", x.put(0, 1, 99), 0);
        Due.is("10: cold", x.put(0, 1, 0), 99);
        Due.is("10: mood stays", x.told(0, 0), 99);
    }

    private static void told() {
        IcedTooSoon x = new IcedTooSoon();
        Due.is("11: nobody", x.told(0, 0), -5000);
        x.guest(12, -7);
        x.guest(0, 0);
        x.order(0, 1, 99);
        x.order(1, 1, 5);
        x.order(0, 1, 25);
        x.order(0, 1, 25);
        x.put(0, 1, 33);
        int[] due = {-7, 33, 1, 2, 13, 2};
        for (int what = 0; what < due.length; what++) {
            Due.is("11: told(0, " + what + ")", x.told(0, what), due[what]);
        }
        Due.is("11: what -1", x.told(0, -1), -7000);
        Due.is("11: what 6", x.told(0, 6), -7000);
        Due.is("11: none such is told first", x.told(2, 6), -5000);
        Due.is("11: p -1", x.told(-1, 0), -5000);
        x.spill(1);
        Due.is("11: no glasses", x.told(1, 4), 0);
        Due.is("11: none goes off", x.told(1, 5), -1);

        IcedTooSoon y = Due.under("melts 60 < day + 1;feels 0;chills 0;");
        y.guest(0, 0);
        y.order(0, 0, 1);
        Due.is("11: not within 60 days", y.told(0, 5), -1);
        y.dawn(1);
        Due.is("11: on the 60th", y.told(0, 5), 0);
        Due.is("11: nothing is changed", y.count(2), 1);
    }

    private static void glass() {
        IcedTooSoon x = new IcedTooSoon();
        x.guest(0, 0);
        x.guest(47, 0);
        x.order(1, -33, 44);
        int[] due = {1, -33, 44, 17, -16, 12};
        for (int what = 0; what < due.length; what++) {
            Due.is("12: glass(0, " + what + ")", x.glass(0, what), due[what]);
        }
        Due.is("12: what -1", x.glass(0, -1), -7000);
        Due.is("12: what 6", x.glass(0, 6), -7000);
        Due.is("12: g -1", x.glass(-1, 0), -6000);
        Due.is("12: g 10", x.glass(10, 0), -6000);
        Due.is("12: no such glass is told first", x.glass(1, 6), -6000);
        IcedTooSoon y = Due.under("melts 0;feels ice;chills ice;");
        y.guest(0, 0);
        y.order(0, 0, 17);
        Due.is("12: felt now, with the ice that is", y.glass(0, 4), 17);
    }

    /** Of each kind: melts, feels, chills by the ordinary text, ahead of what is asked MOOD 0 and so much COLD. */
    private static void kinds() {
        kind(3, 0, 0, 20, 10, 20, 5);
        kind(14, 0, 0, 20, 10, 24, 2);
        kind(14, 0, 0, -20, 10, -20, 2);
        kind(14, 0, 0, 0, 10, 0, 2);
        kind(14, 0, 0, 1, 10, 5, 2);
        kind(29, 0, 50, -33, 19, -16, 5);
        kind(29, 0, 51, -33, 19, 0, 5);
        kind(29, 0, 0, 33, 19, 16, 5);
        kind(36, 5, 0, 20, 10, 52, 2);
        kind(36, 6, 0, -20, 99, -40, 2);
        kind(36, 13, 0, 0, 99, 0, 2);
        kind(36, 7, 0, 0, 10, 0, 2);
        kind(30, 7, 0, 0, 99, 0, 2);
        kind(37, 7, 0, 0, 10, 0, 2);
        kind(47, 0, 20, 33, 17, 16, 12);
        kind(47, 0, 21, 33, 5, 16, 12);
        kind(47, 0, 51, 33, 5, 0, 12);
        kind(57, 0, 0, 33, 7, -33, 5);
        kind(50, 0, 99, -33, 0, 33, 5);

        String most = "melts 99;feels 99;chills 99;";
        kindUnder(most, 29, 108, 49, 99);
        kindUnder(most, 39, 99, 216, 49);
        kindUnder(most, 49, 108, 49, 108);
        kindUnder(most, 19, 99, 108, 49);
    }

    private static void kind(int kindMore, int day, int cold, int heavy, int melts, int feels, int chills) {
        IcedTooSoon x = new IcedTooSoon();
        x.guest(kindMore, 0);
        x.order(0, heavy, 50);
        x.dawn(day);
        x.put(0, 1, cold);
        askThree(x, "kind " + kindMore + ", day " + day + ", cold " + cold, melts, feels, chills);
    }

    private static void kindUnder(String text, int kindMore, int melts, int feels, int chills) {
        IcedTooSoon x = Due.under(text);
        x.guest(kindMore, 0);
        x.order(0, 0, 50);
        x.put(0, 1, 0);
        askThree(x, "kind " + kindMore + " under " + text, melts, feels, chills);
    }

    private static void askThree(IcedTooSoon x, String of, int melts, int feels, int chills) {
        Due.is("12: MELTS of " + of, x.glass(0, 3), melts);
        Due.is("12: FEELS of " + of, x.glass(0, 4), feels);
        Due.is("12: CHILLS of " + of, x.glass(0, 5), chills);
    }
}
