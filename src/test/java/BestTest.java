/** Promises 20 to 23: what is best. */
public final class BestTest {
    public static void main(String[] args) {
        again();
        spilt();
        round();
        roundOfLikeOnes();
        mean();
        Due.end();
    }

    private static void again() {
        IcedTooSoon x = new IcedTooSoon();
        Due.is("20: none", x.again(30, 8, 0), -1);
        Due.is("20: as so", x.again(30, 8, 1), 0);
        x.guest(0, 10);
        x.guest(0, 0);
        x.order(0, 5, 15);
        x.order(1, -20, 15);
        x.order(0, -20, 15);
        x.order(1, -30, 95);
        Due.is("20: of like ones the first", x.again(1, 2, 0), -1);
        Due.is("20: as so", x.again(1, 2, 1), -25);
        Due.is("20: enough ice", x.again(10, 2, 0), 1);
        Due.is("20: that", x.again(10, 2, 1), -5);
        Due.is("20: too late", x.again(10, 3, 0), -1);
        Due.is("20: too late, as so", x.again(10, 3, 1), -25);
        Due.is("20: 99 at most, which lasts nine days", x.again(99, 9, 1), -5);
        Due.is("20: 99 at most, which is off by the tenth", x.again(99, 10, 0), -1);
        Due.is("20: as so", x.again(99, 10, 1), -55);
        Due.is("20: n 20", x.again(99, 20, 0), -1);
        x.put(0, 0, 0);
        x.order(0, 50, 5);
        Due.is("20: worse, if it waits", x.again(99, 1, 0), -1);
        x.order(1, -60, 5);
        Due.is("20: of one day", x.again(99, 1, 0), 5);
        Due.is("20: that", x.again(99, 1, 1), 50);
        IcedTooSoon y = new IcedTooSoon();
        y.guest(0, 0);
        y.order(0, -60, 5);
        y.order(0, -60, 5);
        Due.is("20: the first glass", y.again(99, 1, 0), 0);
        Due.is("20: that", y.again(99, 1, 1), -60);
        Due.is("20: much 0", x.again(0, 2, 0), -1000);
        Due.is("20: much 100", x.again(100, 2, 0), -1000);
        Due.is("20: n 0", x.again(1, 0, 0), -1000);
        Due.is("20: n 21", x.again(1, 21, 0), -1000);
        Due.is("20: what -1", x.again(1, 1, -1), -1000);
        Due.is("20: what 2", x.again(1, 1, 2), -1000);
        Due.is("20: only in thought", x.glass(1, 2), 15);
    }

    private static void spilt() {
        IcedTooSoon x = new IcedTooSoon();
        Due.is("21: none", x.spilt(8, 0), -1);
        Due.is("21: as so", x.spilt(8, 1), 0);
        x.guest(0, 10);
        x.guest(0, 0);
        x.order(0, 5, 15);
        x.order(1, -20, 15);
        x.order(0, -20, 15);
        x.order(1, -30, 95);
        Due.is("21: not yet", x.spilt(1, 0), -1);
        Due.is("21: not yet", x.spilt(1, 1), 10);
        Due.is("21: of like ones the first", x.spilt(2, 0), 1);
        Due.is("21: that", x.spilt(2, 1), -5);
        Due.is("21: the worst", x.spilt(20, 0), 3);
        Due.is("21: that", x.spilt(20, 1), -25);
        IcedTooSoon y = new IcedTooSoon();
        y.guest(0, 0);
        y.order(0, -60, 5);
        y.order(0, -60, 5);
        Due.is("21: the first glass", y.spilt(1, 0), 0);
        Due.is("21: that", y.spilt(1, 1), -60);
        Due.is("21: n 0", x.spilt(0, 0), -1000);
        Due.is("21: n 21", x.spilt(21, 0), -1000);
        Due.is("21: what -1", x.spilt(1, -1), -1000);
        Due.is("21: what 2", x.spilt(1, 2), -1000);
        Due.is("21: only in thought", x.count(1), 4);
    }

    private static void round() {
        IcedTooSoon x = new IcedTooSoon();
        Due.is("22: none", x.round(25, 5, 0), 0);
        Due.is("22: as so", x.round(25, 5, 1), 0);
        x.guest(0, 10);
        x.guest(0, 0);
        x.order(0, 5, 15);
        x.order(1, -20, 15);
        x.order(0, -20, 15);
        x.order(1, -30, 35);
        Due.is("22: all that would be bad", x.round(99, 5, 0), 14);
        Due.is("22: that", x.round(99, 5, 1), 15);
        Due.is("22: those that help by then", x.round(6, 2, 0), 6);
        Due.is("22: that", x.round(6, 2, 1), 15);
        Due.is("22: none helps", x.round(1, 5, 0), 0);
        Due.is("22: none helps", x.round(1, 5, 1), -55);
        x.spill(1);
        Due.is("22: of those that are there", x.round(99, 5, 0), 12);
        Due.is("22: n 10", x.round(99, 10, 0), 0);
        Due.is("22: much 0", x.round(0, 2, 0), -1000);
        Due.is("22: much 100", x.round(100, 2, 0), -1000);
        Due.is("22: n 0", x.round(1, 0, 0), -1000);
        Due.is("22: n 11", x.round(1, 11, 0), -1000);
        Due.is("22: what -1", x.round(1, 1, -1), -1000);
        Due.is("22: what 2", x.round(1, 1, 2), -1000);
        Due.is("22: only in thought", x.glass(2, 2), 15);
    }

    private static void roundOfLikeOnes() {
        IcedTooSoon x = new IcedTooSoon();
        x.guest(0, 90);
        x.order(0, -20, 5);
        x.order(0, -20, 5);
        x.order(0, 99, 5);
        Due.is("22: it is 99 anyway", x.round(50, 1, 0), 0);
        IcedTooSoon y = Due.under("melts 10;feels weight - mood;chills 0;");
        y.guest(0, 0);
        y.order(0, 30, 5);
        y.order(0, 30, 5);
        y.order(0, 10, 5);
        Due.is("22: of {2}, {0, 2}, {1, 2} the one of fewest", y.round(50, 1, 0), 4);
        IcedTooSoon w = Due.under("melts 10;feels weight-50*(mood=10)-50*(mood=5)*(weight=10);chills 0;");
        w.guest(0, 0);
        w.order(0, 5, 5);
        w.order(0, 5, 5);
        w.order(0, 10, 5);
        Due.is("22: of {0, 1}, {2} the one of fewest", w.round(50, 1, 0), 4);
        Due.is("22: that", w.round(50, 1, 1), 10);
        IcedTooSoon v = new IcedTooSoon();
        v.guest(0, 0);
        v.order(0, -10, 5);
        v.order(0, 10, 5);
        Due.is("22: the first glass", v.round(50, 1, 0), 1);
        Due.is("22: that", v.round(50, 1, 1), 10);
        IcedTooSoon z = Due.under("melts 10;feels (mood=0)*7-(mood=7)*9;chills 0;");
        z.guest(0, 0);
        z.order(0, 0, 5);
        z.order(0, 0, 5);
        Due.is("22: {1} ahead of {0}", z.round(50, 1, 0), 2);
        Due.is("22: that", z.round(50, 1, 1), 7);
        z.guest(0, 0);
        z.order(1, 0, 5);
        z.order(1, 0, 5);
        z.order(0, 0, 5);
        z.order(1, 0, 5);
        Due.is("22: {1, 4} of one, {3, 5} of the other", z.round(50, 1, 0), 58);
        Due.is("22: that", z.round(50, 1, 1), 14);
    }

    private static void mean() {
        IcedTooSoon x = new IcedTooSoon();
        Due.is("23: none", x.mean(0), IcedTooSoon.NO);
        x.guest(0, 0);
        x.order(0, 0, 5);
        Due.is("23: 0", x.mean(0), 0);
        Due.is("23: by 1", x.mean(1), 1);
        x.order(0, -7, 5);
        Due.is("23: -7", x.mean(0), -7);
        Due.is("23: by 2", x.mean(1), 2);
        x.order(0, 1, 5);
        x.order(0, 2, 5);
        Due.is("23: -4 by 4 is -1", x.mean(0), -1);
        Due.is("23: by 1", x.mean(1), 1);
        x.order(0, 10, 5);
        x.order(0, 4, 5);
        Due.is("23: 10 by 6 is 5", x.mean(0), 5);
        Due.is("23: by 3", x.mean(1), 3);
        x.spill(5);
        Due.is("23: 6", x.mean(0), 6);
        Due.is("23: by 5", x.mean(1), 5);
        x.spill(0);
        x.order(0, 9, 5);
        Due.is("23: 15 by 5", x.mean(0), 3);
        Due.is("23: part -1", x.mean(-1), IcedTooSoon.NO);
        Due.is("23: part 2", x.mean(2), IcedTooSoon.NO);
    }
}
