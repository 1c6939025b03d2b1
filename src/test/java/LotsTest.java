/** Promises 31 to 34: orders by lots, images. */
public final class LotsTest {
    public static void main(String[] args) {
        drawn();
        odds();
        image();
        back();
        Due.end();
    }

    /** Orders by lots, truly, with the public calls. */
    private static void play(IcedTooSoon x, int seed) {
        long lot = seed + 1;
        for (int i = 0; i < 8; i++) {
            long[] three = new long[3];
            for (int k = 0; k < 3; k++) {
                lot = lot * 48271 % 2147483647;
                three[k] = lot;
            }
            x.order((int) (three[0] % 6), (int) (three[1] % 199) - 99, (int) (three[2] % 99) + 1);
            x.day();
        }
    }

    private static IcedTooSoon house(int guests) {
        IcedTooSoon x = new IcedTooSoon();
        for (int p = 0; p < guests; p++) {
            x.guest(11 * p, 10 * p);
        }
        return x;
    }

    private static void drawn() {
        for (int guests = 0; guests <= 6; guests++) {
            for (int seed : new int[] {0, 1, 7, 4711, 99999}) {
                IcedTooSoon x = house(guests);
                int mood = x.drawn(seed, 0);
                int glasses = x.drawn(seed, 1);
                Due.is("31: only in thought", x.count(1) + x.count(2), 0);
                play(x, seed);
                Due.is("31: mood by " + seed + " of " + guests, mood, x.run(0, 1));
                Due.is("31: glasses by " + seed + " of " + guests, glasses, x.count(1));
            }
        }
        for (int seed = 0; seed < 200; seed++) {
            IcedTooSoon x = Due.under("melts 2;feels weight+cold;chills ice;");
            for (int p = 0; p < 6; p++) {
                x.guest(11 * p, 0);
            }
            int mood = x.drawn(seed, 0);
            play(x, seed);
            Due.is("31: mood by " + seed, mood, x.run(0, 1));
        }
        IcedTooSoon y = Due.under("melts 0;feels 0;chills 0;");
        for (int p = 0; p < 6; p++) {
            y.guest(0, 0);
        }
        Due.is("31: eight orders", y.drawn(5, 1), 8);
        y.order(0, 0, 1);
        y.order(0, 0, 1);
        y.order(0, 0, 1);
        Due.is("31: no room for the last", y.drawn(5, 1), 10);
        Due.is("31: seed -1", y.drawn(-1, 0), -1000);
        Due.is("31: seed 100000", y.drawn(100000, 0), -1000);
        Due.is("31: what -1", y.drawn(0, -1), -1000);
        Due.is("31: what 2", y.drawn(0, 2), -1000);
    }

    private static void odds() {
        IcedTooSoon x = house(6);
        for (int seeds : new int[] {1, 7, 30, 40}) {
            for (int least : new int[] {-999, 0, 100, 150, 999}) {
                int many = 0;
                for (int i = 0; i < seeds; i++) {
                    if (x.drawn(123 + i, 0) >= least) {
                        many++;
                    }
                }
                long above = x.odds(123, seeds, least, 0);
                long below = x.odds(123, seeds, least, 1);
                Due.is("32: as many", above * seeds, many * below);
                Due.is("32: lowest terms", gcd(above, below), 1);
            }
        }
        int one = x.drawn(9, 0);
        Due.is("32: just so much", x.odds(9, 1, one, 0), 1);
        Due.is("32: 1 more", x.odds(9, 1, one + 1, 0), 0);
        Due.is("32: 0 by 1", x.odds(9, 40, 999, 1), 1);
        Due.is("32: 1 by 1", x.odds(9, 40, -999, 1), 1);
        Due.is("32: seed 0", x.odds(0, 1, -999, 0), 1);
        Due.is("32: seed 99999", x.odds(99999, 1, -999, 0), 1);
        Due.is("32: seed -1", x.odds(-1, 1, 0, 0), IcedTooSoon.NO);
        Due.is("32: seed 100000", x.odds(100000, 1, 0, 0), IcedTooSoon.NO);
        Due.is("32: seeds 0", x.odds(0, 0, 0, 0), IcedTooSoon.NO);
        Due.is("32: seeds 41", x.odds(0, 41, 0, 0), IcedTooSoon.NO);
        Due.is("32: least -1000", x.odds(0, 1, -1000, 0), IcedTooSoon.NO);
        Due.is("32: least 1000", x.odds(0, 1, 1000, 0), IcedTooSoon.NO);
        Due.is("32: part -1", x.odds(0, 1, 0, -1), IcedTooSoon.NO);
        Due.is("32: part 2", x.odds(0, 1, 0, 2), IcedTooSoon.NO);
    }

    private static long gcd(long a, long b) {
        return b == 0 ? a : gcd(b, a % b);
    }

    private static void image() {
        IcedTooSoon x = new IcedTooSoon();
        Due.is("33: empty", x.image(), 0);
        x.guest(0, 0);
        x.guest(0, 0);
        Due.is("33: two", x.image(), 2);
        x.guest(0, 0);
        Due.is("33: the last image", x.back(), 2);
        x.order(0, 1, 1);
        x.image();
        x.spill(0);
        x.back();
        Due.is("33: a later one", x.count(1), 1);
    }

    private static void back() {
        IcedTooSoon x = new IcedTooSoon();
        Due.is("34: none", x.back(), IcedTooSoon.STATE);
        Due.text(x, "melts 1;feels 2;chills 3;");
        x.guest(14, 40);
        x.order(0, -9, 30);
        x.order(0, 9, 5);
        x.dawn(17);
        x.image();
        x.sheet(0, 0, 1);
        x.feed(2, 1, 1, 1, 1, 1);
        x.force(1);
        Due.is("34: a text more", x.text(), -100);
        Due.text(x, "melts 7;feels 2;chills 3;");
        x.feed(3, 1, 1, 1, 1, 1);
        x.guest(29, 3);
        x.order(1, 77, 77);
        x.iced(0, 50);
        x.put(0, 0, -1);
        x.put(0, 1, 88);
        x.spill(1);
        x.day();
        for (int i = 0; i < 2; i++) {
            Due.is("34: how many there are", x.back(), 1);
            int[] counts = {1, 2, 17, 3, 0, 3};
            for (int what = 0; what < counts.length; what++) {
                Due.is("34: count(" + what + ")", x.count(what), counts[what]);
            }
            Due.is("34: mood", x.told(0, 0), 40);
            Due.is("34: cold", x.told(0, 1), 4);
            Due.is("34: glasses", x.told(0, 4), 3);
            Due.is("34: weight", x.glass(0, 1), -9);
            Due.is("34: ice", x.glass(0, 2), 30);
            Due.is("34: ice of the spilt one", x.glass(1, 2), 5);
            Due.is("34: who came since is none", x.told(1, 0), -5000);
            Due.is("34: sheets stay", x.cell(0, 0, 5), 1);
            x.day();
        }
        x.back();
        Due.is("34: another comes", x.guest(55, -3), 1);
        Due.is("34: of a kind of one's own", x.told(1, 2), 5);
        Due.is("34: not cold", x.told(1, 1), 0);
    }
}
