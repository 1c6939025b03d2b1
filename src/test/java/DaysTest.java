/** Promises 13 to 19: days. */
public final class DaysTest {
    public static void main(String[] args) {
        day();
        dayOneByOne();
        bounds();
        iced();
        spill();
        run();
        goesOff();
        worst();
        falls();
        Due.end();
    }

    private static void day() {
        IcedTooSoon x = new IcedTooSoon();
        x.guest(0, 10);
        x.guest(0, 20);
        x.order(0, -30, 10);
        x.order(1, 5, 11);
        x.order(0, 7, 9);
        x.put(0, 1, 1);
        x.put(1, 1, 50);
        Due.is("13: two go off", x.day(), 5);
        Due.is("13: felt", x.told(0, 0), -13);
        Due.is("13: not felt yet", x.told(1, 0), 20);
        Due.is("13: ice", x.glass(1, 2), 1);
        Due.is("13: not there any more", x.glass(0, 2), -6000);
        Due.is("13: cold, 0 at least", x.told(0, 1), 0);
        Due.is("13: cold, 2 less", x.told(1, 1), 48);
        Due.is("13: day", x.count(2), 1);
        Due.is("13: the other", x.day(), 2);
        Due.is("13: felt", x.told(1, 0), 25);
        Due.is("13: none", x.day(), 0);
        x.dawn(998);
        Due.is("13: to the last", x.day(), 0);
        Due.is("13: the last", x.count(2), 999);
        x.put(1, 1, 10);
        Due.is("13: STATE", x.day(), IcedTooSoon.STATE);
        Due.is("13: nothing is changed", x.told(1, 1), 10);
        Due.is("13: in thought it may pass", x.run(3, 21), 4);
    }

    /** All is told as it is then. */
    private static void dayOneByOne() {
        IcedTooSoon x = Due.under("melts mood;feels weight;chills 0;");
        x.guest(0, 50);
        x.order(0, 49, 10);
        x.order(0, 1, 60);
        Due.is("13: the second by the mood behind the first", x.day(), 3);

        IcedTooSoon y = Due.under("melts 5;feels ice + 10 * cold + 7 * day;chills 0;");
        y.guest(0, 0);
        y.put(0, 1, 3);
        y.dawn(2);
        y.order(0, 49, 5);
        Due.is("13: off", y.day(), 1);
        Due.is("13: ice being 0, cold and day ahead of less and more", y.told(0, 0), 44);

        IcedTooSoon z = Due.under("melts ice + 10;feels weight;chills 0;");
        z.guest(20, 0);
        z.order(0, 40, 99);
        z.put(0, 1, 51);
        Due.is("13: so cold", z.run(1, 10), 0);
        z.put(0, 1, 50);
        Due.is("13: not so cold", z.run(1, 10), 20);

        IcedTooSoon w = Due.under("melts 0;feels 1;chills 0;");
        w.guest(0, 0);
        w.order(0, 0, 1);
        Due.is("13: nothing melts", w.day(), 0);
        Due.is("13: ice stays", w.glass(0, 2), 1);
    }

    private static void bounds() {
        IcedTooSoon x = new IcedTooSoon();
        x.guest(0, 90);
        x.guest(0, -90);
        x.order(0, 30, 1);
        x.order(0, -5, 1);
        x.order(1, -30, 1);
        x.order(1, 5, 1);
        Due.is("13: all", x.day(), 15);
        Due.is("13: 99 at most, then less", x.told(0, 0), 94);
        Due.is("13: -99 at least, then more", x.told(1, 0), -94);
        x.put(0, 0, -99);
        IcedTooSoon y = Due.under("melts 99;feels 99;chills 0;");
        y.guest(39, -99);
        y.order(0, 0, 99);
        y.day();
        Due.is("13: a bride feels more than 99", y.told(0, 0), 99);
    }

    private static void iced() {
        IcedTooSoon x = new IcedTooSoon();
        Due.is("14: none", x.iced(0, 5), -6);
        x.guest(0, 0);
        x.order(0, 0, 50);
        Due.is("14: g -1", x.iced(-1, 5), -6);
        Due.is("14: g 10", x.iced(10, 5), -6);
        Due.is("14: not there, told first", x.iced(1, 100), -6);
        Due.is("14: much -1", x.iced(0, -1), -7);
        Due.is("14: much 100", x.iced(0, 100), -7);
        Due.is("14: 0 more", x.iced(0, 0), 50);
        Due.is("14: 9 more", x.iced(0, 9), 59);
        Due.is("14: 99 at most", x.iced(0, 99), 99);
        Due.is("14: truly", x.glass(0, 2), 99);
        Due.is("14: cold stays", x.told(0, 1), 5);
    }

    private static void spill() {
        IcedTooSoon x = new IcedTooSoon();
        Due.is("15: none", x.spill(0), -6000);
        x.guest(0, 0);
        x.order(0, -77, 1);
        x.order(0, 66, 1);
        Due.is("15: g -1", x.spill(-1), -6000);
        Due.is("15: g 10", x.spill(10), -6000);
        Due.is("15: its weight", x.spill(0), -77);
        Due.is("15: gone", x.spill(0), -6000);
        Due.is("15: nobody feels it", x.told(0, 0), 0);
        Due.is("15: the other is there", x.told(0, 4), 2);
        Due.is("15: cold stays", x.told(0, 1), 10);
    }

    private static void run() {
        IcedTooSoon x = new IcedTooSoon();
        Due.is("16: empty", x.run(40, 1), 0);
        Due.is("16: nobody", x.run(0, 10), -100000);
        x.guest(0, 10);
        x.guest(0, 20);
        x.order(0, -30, 10);
        x.order(1, 5, 20);
        x.put(1, 1, 50);
        Due.is("16: glasses now", x.run(0, 0), 2);
        Due.is("16: glasses", x.run(1, 0), 1);
        Due.is("16: glasses", x.run(2, 0), 0);
        Due.is("16: mood now", x.run(0, 1), 30);
        Due.is("16: mood", x.run(1, 1), 0);
        Due.is("16: mood", x.run(40, 1), 5);
        Due.is("16: mood of 0", x.run(1, 10), -20);
        Due.is("16: mood of 1", x.run(1, 11), 20);
        Due.is("16: mood of 1", x.run(2, 11), 25);
        Due.is("16: cold of 0", x.run(1, 20), 3);
        Due.is("16: cold of 1", x.run(24, 21), 2);
        for (int what : new int[] {-1, 2, 9, 12, 16, 19, 22, 29, 30, 31}) {
            Due.is("16: what " + what, x.run(1, what), -100000);
        }
        Due.is("16: n -1", x.run(-1, 0), -100000);
        Due.is("16: n 41", x.run(41, 0), -100000);
        Due.is("16: only in thought", x.count(1), 2);
        Due.is("16: only in thought", x.count(2), 0);
    }

    private static void goesOff() {
        IcedTooSoon x = Due.under("melts 1;feels 0;chills 0;");
        Due.is("17: none", x.goesOff(0), -6);
        x.guest(0, 0);
        x.order(0, 0, 60);
        x.order(0, 0, 61);
        x.order(0, 0, 1);
        Due.is("17: 60", x.goesOff(0), 60);
        Due.is("17: not by then", x.goesOff(1), -1);
        Due.is("17: 1", x.goesOff(2), 1);
        Due.is("17: g -1", x.goesOff(-1), -6);
        Due.is("17: g 3", x.goesOff(3), -6);
        Due.is("17: g 10", x.goesOff(10), -6);
        Due.is("17: only in thought", x.count(1), 3);
    }

    private static void worst() {
        IcedTooSoon x = new IcedTooSoon();
        Due.is("18: nobody", x.worst(0, 1, 0), -5);
        x.guest(0, 50);
        x.guest(0, 50);
        x.order(0, -10, 5);
        x.order(0, -20, 15);
        x.order(0, -20, 25);
        x.order(0, 30, 35);
        x.order(1, 30, 5);
        x.order(0, -70, 45);
        x.order(0, 40, 45);
        Due.is("18: of 1", x.worst(0, 1, 0), 1);
        Due.is("18: of 1, how much", x.worst(0, 1, 1), 10);
        Due.is("18: of like ones the first", x.worst(0, 4, 0), 2);
        Due.is("18: how much", x.worst(0, 4, 1), 20);
        Due.is("18: a day as a whole", x.worst(0, 40, 0), 5);
        Due.is("18: a day as a whole", x.worst(0, 40, 1), 30);
        Due.is("18: by none", x.worst(1, 40, 0), -1);
        Due.is("18: by none", x.worst(1, 40, 1), 0);
        Due.is("18: n 0", x.worst(0, 0, 0), -7);
        Due.is("18: n 41", x.worst(0, 41, 0), -7);
        Due.is("18: what -1", x.worst(0, 1, -1), -7);
        Due.is("18: what 2", x.worst(0, 1, 2), -7);
        Due.is("18: none such is told first", x.worst(2, 0, 0), -5);
        Due.is("18: p -1", x.worst(-1, 1, 0), -5);
    }

    private static void falls() {
        IcedTooSoon x = new IcedTooSoon();
        Due.is("19: nobody", x.falls(40, 99), 0);
        x.guest(0, -10);
        x.guest(0, 20);
        x.guest(0, 20);
        x.order(1, -40, 5);
        x.order(1, 40, 15);
        x.order(2, -40, 15);
        Due.is("19: now", x.falls(0, 0), 1);
        Due.is("19: not below", x.falls(0, -10), 0);
        Due.is("19: below", x.falls(0, -9), 1);
        Due.is("19: behind one", x.falls(1, 0), 3);
        Due.is("19: behind any of two", x.falls(2, 0), 7);
        Due.is("19: behind any of 40", x.falls(40, -19), 6);
        Due.is("19: behind any of 40", x.falls(40, -20), 0);
        Due.is("19: n -1", x.falls(-1, 0), IcedTooSoon.BAD);
        Due.is("19: n 41", x.falls(41, 0), IcedTooSoon.BAD);
        Due.is("19: below -100", x.falls(0, -100), IcedTooSoon.BAD);
        Due.is("19: below 100", x.falls(0, 100), IcedTooSoon.BAD);
        Due.is("19: below -99", x.falls(40, -99), 0);
        Due.is("19: below 99", x.falls(40, 99), 7);
    }
}
