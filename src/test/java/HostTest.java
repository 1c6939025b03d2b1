/** Promises 35 to 39: the host. */
public final class HostTest {
    public static void main(String[] args) {
        sheet();
        cell();
        copy();
        guestsBy();
        taken();
        Due.end();
    }

    private static void sheet() {
        IcedTooSoon x = new IcedTooSoon();
        x.guest(0, 0);
        Due.is("35: s -1", x.sheet(-1, 0, 1), IcedTooSoon.BAD);
        Due.is("35: s 4", x.sheet(4, -1, 1), IcedTooSoon.BAD);
        Due.is("35: sort -2", x.sheet(0, -2, 1), IcedTooSoon.BAD);
        Due.is("35: sort 3", x.sheet(0, 3, 1), IcedTooSoon.BAD);
        Due.is("35: sort is told first", x.sheet(0, 3, -1), IcedTooSoon.BAD);
        Due.is("35: n 41", x.sheet(0, 0, 41), IcedTooSoon.BAD);
        Due.is("35: n -1", x.sheet(0, 0, -1), -14);
        Due.is("35: nothing there yet", x.cell(0, 0, 0), -11);
        for (int sort = 0; sort < 3; sort++) {
            Due.is("35: 40", x.sheet(3, sort, 40), 1);
            Due.is("35: the last", x.cell(3, 39, 7), 1);
            Due.is("35: no more", x.cell(3, 40, 7), -12);
            Due.is("35: 20, anew", x.sheet(3, sort, 20), 1);
            x.cell(3, 19, 5);
            x.sheet(3, sort, 20);
            Due.is("35: all 0", x.judge(3, 0), -1);
        }
        Due.is("35: n 41 of one that is there", x.sheet(3, 0, 41), IcedTooSoon.BAD);
        Due.is("35: a refusal changes nothing", x.cell(3, 19, 0), 1);
        Due.is("35: missing, n -5", x.sheet(3, -1, -5), 1);
        Due.is("35: nothing there", x.cell(3, 0, 0), -11);
        Due.is("35: missing, n 99", x.sheet(3, -1, 99), 1);
        Due.is("35: none", x.sheet(3, 2, 0), 1);
        Due.is("35: there, but empty", x.cell(3, 0, 0), -12);
    }

    private static void cell() {
        IcedTooSoon x = new IcedTooSoon();
        x.guest(0, -1);
        Due.is("36: s -1", x.cell(-1, 0, 0), IcedTooSoon.BAD);
        Due.is("36: s 4", x.cell(4, 0, 0), IcedTooSoon.BAD);
        Due.is("36: nothing there is told first", x.cell(0, -1, 0), -11);
        int[] minusOnes = {255, 65535, -1};
        int[] others = {256 + 254, 255, 65535};
        for (int sort = 0; sort < 3; sort++) {
            x.sheet(sort, sort, 2);
            Due.is("36: i -1", x.cell(sort, -1, 0), -12);
            Due.is("36: i 2", x.cell(sort, 2, 0), -12);
            x.cell(sort, 0, -1);
            Due.is("36: becomes", x.cell(sort, 1, minusOnes[sort]), 1);
            Due.is("36: is -1", x.judge(sort, 0), -1);
            x.cell(sort, 1, others[sort]);
            Due.is("36: is not -1", x.judge(sort, 0), 1);
        }
        x.put(0, 0, 44);
        x.sheet(0, 0, 1);
        x.cell(0, 0, 300);
        Due.is("36: 300 is 44", x.judge(0, 0), -1);
        x.sheet(0, 1, 1);
        x.cell(0, 0, 65536 * 3 + 44);
        Due.is("36: 196652 is 44", x.judge(0, 0), -1);
        x.cell(0, 0, 300);
        Due.is("36: 300 is 300", x.judge(0, 0), 0);
    }

    /** Moods of guest 0, told as days: what stands in a sheet is seen by judge() of a quiet guest. */
    private static boolean stands(IcedTooSoon x, int s, int... cells) {
        for (int i = 0; i < cells.length; i++) {
            x.put(0, 0, cells[i]);
            x.sheet(3, 2, 1);
            if (x.copy(s, i, 3, 0, 1) != 1 || x.judge(3, 0) != -1) {
                return false;
            }
        }
        return x.copy(s, cells.length, 3, 0, 1) == -12;
    }

    private static void copy() {
        IcedTooSoon x = new IcedTooSoon();
        x.guest(0, 0);
        Due.is("37: s -1", x.copy(-1, 0, 0, 0, 0), IcedTooSoon.BAD);
        Due.is("37: other 4", x.copy(0, 0, 4, 0, 0), IcedTooSoon.BAD);
        Due.is("37: nothing there", x.copy(0, 0, 0, 0, 0), -11);
        x.sheet(0, 2, 5);
        Due.is("37: nothing in the other", x.copy(0, -1, 1, 0, 0), -11);
        Due.is("37: nothing in the one", x.copy(1, 0, 0, 0, 0), -11);
        x.sheet(1, 1, 5);
        Due.is("37: unlike sorts ahead of places", x.copy(0, -1, 1, 9, 99), -13);
        Due.is("37: unlike sorts, none", x.copy(0, 0, 1, 0, 0), -13);
        x.sheet(1, 2, 3);
        int[][] outside = {{-1, 0, 1}, {0, -1, 1}, {5, 0, 1}, {0, 3, 1}, {0, 0, 4}, {2, 0, 4}, {0, 0, -1},
            {-1, 0, 0}, {6, 0, 0}, {0, 4, 0}, {1, 0, Integer.MAX_VALUE}, {Integer.MAX_VALUE, 0, 1},
            {Integer.MIN_VALUE, 0, 1}, {0, Integer.MAX_VALUE, Integer.MAX_VALUE}, {0, 0, Integer.MIN_VALUE}};
        for (int[] o : outside) {
            Due.is("37: " + o[0] + " to " + o[1] + ", " + o[2], x.copy(0, o[0], 1, o[1], o[2]), -12);
        }
        Due.is("37: none from the end", x.copy(0, 5, 1, 3, 0), 0);
        Due.fill(x, 0, 2, 1, 2, 3, 4, 5);
        Due.is("37: three", x.copy(0, 2, 1, 0, 3), 3);
        Due.is("37: they stand there", stands(x, 1, 3, 4, 5) ? 1 : 0, 1);
        Due.is("37: and where they were", stands(x, 0, 1, 2, 3, 4, 5) ? 1 : 0, 1);
        Due.is("37: up", x.copy(0, 0, 0, 1, 4), 4);
        Due.is("37: as they were", stands(x, 0, 1, 1, 2, 3, 4) ? 1 : 0, 1);
        Due.fill(x, 0, 2, 1, 2, 3, 4, 5);
        Due.is("37: down", x.copy(0, 2, 0, 0, 3), 3);
        Due.is("37: as they were", stands(x, 0, 3, 4, 5, 4, 5) ? 1 : 0, 1);
    }

    private static void guestsBy() {
        IcedTooSoon x = new IcedTooSoon();
        Due.is("38: s -1", x.guestsBy(-1, 0, 0, 1), IcedTooSoon.BAD);
        Due.is("38: s 4", x.guestsBy(4, 0, 0, 1), IcedTooSoon.BAD);
        Due.is("38: sort -1", x.guestsBy(0, -1, 0, 1), IcedTooSoon.BAD);
        Due.is("38: sort 3", x.guestsBy(0, 3, 0, 1), IcedTooSoon.BAD);
        Due.is("38: n -1", x.guestsBy(0, 0, 0, -1), IcedTooSoon.BAD);
        Due.is("38: n 7", x.guestsBy(0, 0, 0, 7), IcedTooSoon.BAD);
        Due.is("38: nothing there", x.guestsBy(0, 0, -1, 1), -11);
        Due.fill(x, 0, 1, 99, 47, -99, 60, 0, 59, 99, 0, 100, 12, 5);
        Due.is("38: of another sort", x.guestsBy(0, 2, -1, 1), -13);
        Due.is("38: from -1", x.guestsBy(0, 1, -1, 1), -12);
        Due.is("38: from 10", x.guestsBy(0, 1, 10, 1), -12);
        Due.is("38: from 11", x.guestsBy(0, 1, 11, 1), -12);
        Due.is("38: from the greatest", x.guestsBy(0, 1, Integer.MAX_VALUE, 6), -12);
        Due.is("38: from the least", x.guestsBy(0, 1, Integer.MIN_VALUE, 6), -12);
        Due.is("38: nobody yet", x.count(0), 0);
        Due.is("38: none of them", x.guestsBy(0, 1, 0, 0), 0);
        Due.is("38: three of five", x.guestsBy(0, 1, 1, 5), 3);
        int[] kinds = {4, 5, 1};
        int[] mores = {7, 9, 2};
        int[] moods = {-99, 99, 5};
        for (int p = 0; p < 3; p++) {
            Due.is("38: kind", x.told(p, 2), kinds[p]);
            Due.is("38: more", x.told(p, 3), mores[p]);
            Due.is("38: mood", x.told(p, 0), moods[p]);
        }
        Due.is("38: one, then outside", x.guestsBy(0, 1, 9, 2), -12);
        Due.is("38: what stood ahead came", x.count(0), 4);
        Due.is("38: no room for the third", x.guestsBy(0, 1, 1, 5), 2);
        Due.is("38: six", x.count(0), 6);
        Due.is("38: no room", x.guestsBy(0, 1, 1, 5), 0);
        Due.is("38: no room, and outside", x.guestsBy(0, 1, 1, 6), -12);

        IcedTooSoon y = new IcedTooSoon();
        Due.fill(y, 0, 0, 59, -99);
        Due.is("38: bytes", y.guestsBy(0, 0, 0, 1), 1);
        Due.fill(y, 0, 2, 31, 99);
        Due.is("38: ints", y.guestsBy(0, 2, 0, 1), 1);
        Due.is("38: both", y.told(0, 0) + y.told(1, 0), 0);
    }

    private static void taken() {
        IcedTooSoon x = new IcedTooSoon();
        for (int kind = 0; kind < 6; kind++) {
            x.guest(10 * kind, 0);
        }
        for (int g = 0; g < 10; g++) {
            x.order(0, 10 * g - 50, 50);
        }
        for (int p = 0; p < 6; p++) {
            for (int kind = 0; kind < 6; kind++) {
                boolean is = kind == 0 || kind == p || p == 3 && kind == 1 || p == 4 && kind == 2;
                Due.is("39: " + p + " for " + kind, x.taken(p, kind), is ? p : -1300);
            }
            Due.is("39: " + p + " for a glass", x.taken(p, 6), -1300);
        }
        for (int g = 0; g < 10; g++) {
            Due.is("39: glass " + g, x.taken(6 + g, 6), 10 * g - 50);
            Due.is("39: glass " + g + " for a guest", x.taken(6 + g, g % 6), -1300);
        }
        Due.is("39: kind -1", x.taken(0, -1), -200);
        Due.is("39: kind 7 is told first", x.taken(16, 7), -200);
        Due.is("39: i -1", x.taken(-1, 0), -1200);
        Due.is("39: i 16", x.taken(16, 6), -1200);
        x.spill(3);
        Due.is("39: none such glass", x.taken(9, 6), -1100);
        Due.is("39: none such is told ahead of its sort", x.taken(9, 0), -1100);
        IcedTooSoon y = new IcedTooSoon();
        y.guest(0, 0);
        Due.is("39: none such guest", y.taken(1, 0), -1100);
        Due.is("39: none such guest, for a glass", y.taken(5, 6), -1100);
        Due.is("39: none such glass", y.taken(6, 6), -1100);
    }
}
