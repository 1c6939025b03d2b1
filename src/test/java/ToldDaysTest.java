/** Promises 24 to 30: told days. */
public final class ToldDaysTest {
    public static void main(String[] args) {
        judge();
        kinds();
        states();
        owners();
        who();
        laws();
        film();
        refusals();
        Due.end();
    }

    /** Guest 0: a father with MORE 4, MOOD 10, who feels 24 on the second day, -30 on the fourth; guest 1 as quiet. */
    private static IcedTooSoon house() {
        IcedTooSoon x = new IcedTooSoon();
        x.guest(14, 10);
        x.guest(0, 10);
        x.order(0, 20, 15);
        x.order(0, -30, 35);
        return x;
    }

    private static void judge() {
        IcedTooSoon x = house();
        Due.fill(x, 0, 2, 10, 34, 34, 4);
        Due.is("24: as told", x.judge(0, 0), -1);
        Due.fill(x, 1, 0, 10, 34, 34, 4, 4, 4, 4);
        Due.is("24: bytes", x.judge(1, 0), -1);
        Due.fill(x, 2, 1, 10, 34, 33, 5);
        Due.is("24: the first that is otherwise", x.judge(2, 0), 2);
        Due.is("24: of the other", x.judge(0, 1), 1);
        x.sheet(3, 2, 0);
        Due.is("24: nothing told", x.judge(3, 0), -1);
        x.sheet(3, 2, 20);
        Due.is("24: twenty", x.judge(3, 0), 0);
        Due.fill(x, 3, 2, 10, 34, 34, 4 + 256);
        Due.is("24: an int as it is", x.judge(3, 0), 3);
        Due.fill(x, 3, 0, 10, 34, 34, 4 + 256);
        Due.is("24: a byte's lowest", x.judge(3, 0), -1);
        Due.is("24: only in thought", x.count(2), 0);
        x.dawn(999);
        Due.is("24: past the last day", x.judge(0, 0), -1);
    }

    private static void kinds() {
        IcedTooSoon x = house();
        Due.fill(x, 0, 2, 10, 34, 34, 4);
        Due.is("25: a father", x.kinds(0, 0, 0), 2);
        Due.is("25: with 4", x.kinds(0, 0, 1), 16);
        Due.fill(x, 0, 2, 10);
        Due.is("25: whose glass lasts a day", x.kinds(0, 0, 0), 63);
        Due.is("25: whatever more", x.kinds(0, 0, 1), 1023);
        x.put(0, 1, 60);
        Due.fill(x, 0, 2, 10, 10, 10, 10);
        Due.is("25: who is so cold", x.kinds(0, 0, 0), 20);
        Due.is("25: no father", x.kinds(0, 0, 1), 0);
        Due.is("25: of the other", x.kinds(0, 1, 0), 63);
        Due.is("25: only in thought", x.told(0, 2), 1);
        Due.is("25: only in thought", x.told(0, 3), 4);
    }

    private static void states() {
        IcedTooSoon x = house();
        Due.fill(x, 0, 2, 10, 34, 34, 4);
        Due.is("26: moods", x.states(0, 0, 0, 0), 1);
        Due.is("26: the least", x.states(0, 0, 0, 1), 10);
        Due.is("26: colds", x.states(0, 0, 1, 0), 100);
        Due.is("26: the least", x.states(0, 0, 1, 1), 0);
        Due.fill(x, 0, 2, 11, 34);
        Due.is("26: no moods", x.states(0, 0, 0, 0), 0);
        Due.is("26: none", x.states(0, 0, 0, 1), -1000);
        Due.is("26: no colds", x.states(0, 0, 1, 0), 0);
        Due.is("26: none", x.states(0, 0, 1, 1), -1000);
        x.sheet(0, 2, 0);
        Due.is("26: all moods", x.states(0, 0, 0, 0), 199);
        Due.is("26: the least", x.states(0, 0, 0, 1), -99);
        Due.is("26: all colds", x.states(0, 0, 1, 0), 100);

        IcedTooSoon y = Due.under("melts 99;feels weight+(50<cold)*30;chills 0;");
        y.guest(0, 0);
        y.order(0, 60, 1);
        Due.fill(y, 0, 2, 99);
        Due.is("26: bounded", y.states(0, 0, 0, 0), 61);
        Due.is("26: the least", y.states(0, 0, 0, 1), 39);
        Due.fill(y, 0, 2, 90);
        Due.is("26: so cold", y.states(0, 0, 1, 0), 49);
        Due.is("26: the least", y.states(0, 0, 1, 1), 51);
        Due.is("26: only in thought", y.told(0, 1), 0);
    }

    private static void owners() {
        IcedTooSoon x = house();
        x.order(1, 5, 15);
        x.order(1, 5, 15);
        x.order(1, 5, 25);
        Due.fill(x, 0, 2, 10, 43, 43, 13);
        Due.is("27: either of two", x.owners(0, 0), 12);
        Due.fill(x, 0, 2, 10, 34, 43);
        Due.is("27: the late one", x.owners(0, 0), 16);
        Due.fill(x, 0, 2, 10, 34, 34, 4);
        Due.is("27: none", x.owners(0, 0), 0);
        Due.fill(x, 0, 2, 10);
        Due.is("27: not those that are one's", x.owners(0, 0), 28);
        Due.is("27: nor of the other", x.owners(0, 1), 3);
        Due.is("27: only in thought", x.glass(2, 0), 1);
    }

    private static void who() {
        IcedTooSoon x = house();
        x.guest(50, 10);
        Due.fill(x, 0, 2, 10);
        Due.is("28: all", x.who(0), 7);
        Due.fill(x, 0, 2, 10, 10);
        Due.is("28: the quiet ones", x.who(0), 6);
        Due.fill(x, 0, 2, 10, 34);
        Due.is("28: the father", x.who(0), 1);
        Due.fill(x, 0, 2, 9);
        Due.is("28: none", x.who(0), 0);
        IcedTooSoon y = new IcedTooSoon();
        y.sheet(0, 0, 3);
        Due.is("28: nobody", y.who(0), 0);
    }

    private static void laws() {
        IcedTooSoon x = house();
        Due.fill(x, 0, 2, 10, 34, 34, 4);
        Due.is("29: the one", x.laws(0, 0), 1);
        Due.text(x, "melts 0;feels 0;chills 0;");
        Due.text(x, "melts ice;feels weight;chills 0;");
        Due.text(x, "melts 8+day;feels weight;chills 0;");
        Due.is("29: two of four", x.laws(0, 0), 9);
        x.force(1);
        Due.is("29: whatever the law is", x.laws(0, 0), 9);
        Due.fill(x, 0, 2, 4);
        Due.is("29: all at once", x.laws(0, 0), 4);
        Due.fill(x, 0, 2, 10, 10);
        Due.is("29: never", x.laws(0, 0), 2);
        Due.is("29: of the other", x.laws(0, 1), 15);
        Due.is("29: only in thought", x.count(4), 1);
    }

    private static void film() {
        IcedTooSoon x = house();
        Due.is("30: four days", x.film(1, 0, 4), 4);
        Due.is("30: as told", x.judge(1, 0), -1);
        Due.is("30: of four", x.cell(1, 4, 0), -12);
        Due.fill(x, 0, 0, 10, 34, 34, 4);
        for (int i = 0; i < 4; i++) {
            x.copy(1, i, 0, 3 - i, 1);
        }
        Due.is("30: its numbers, backward", x.judge(0, 0), 0);
        x.cell(0, 0, 10);
        Due.is("30: its numbers, backward", x.judge(0, 0), 3);
        x.cell(0, 3, 4);
        Due.is("30: its numbers, as they were", x.judge(0, 0), -1);
        x.sheet(2, 2, 40);
        Due.is("30: twenty days", x.film(2, 0, 20), 20);
        Due.is("30: as told", x.judge(2, 0), -1);
        Due.is("30: bytes", x.copy(2, 0, 1, 0, 1), 1);
        Due.is("30: no days", x.film(2, 0, 0), 0);
        Due.is("30: there, but empty", x.cell(2, 0, 0), -12);
        Due.is("30: s -1", x.film(-1, 0, 0), IcedTooSoon.BAD);
        Due.is("30: s 4", x.film(4, 9, 99), IcedTooSoon.BAD);
        Due.is("30: none such is told next", x.film(3, 2, 99), -5);
        Due.is("30: p -1", x.film(3, -1, 1), -5);
        Due.is("30: n -1", x.film(3, 0, -1), -7);
        Due.is("30: n 21", x.film(3, 0, 21), -7);
        Due.is("30: a refusal changes nothing", x.cell(3, 0, 0), -11);
        x.put(0, 0, -99);
        x.film(3, 0, 1);
        Due.is("30: below 0", x.judge(3, 0), -1);
    }

    private static void refusals() {
        IcedTooSoon x = house();
        x.sheet(1, 2, 21);
        x.sheet(2, 2, 20);
        refusedAs(x, -1, 9, IcedTooSoon.BAD);
        refusedAs(x, 4, 9, IcedTooSoon.BAD);
        refusedAs(x, 0, 9, -11);
        refusedAs(x, 1, 9, IcedTooSoon.BAD);
        Due.is("24: none such", x.judge(2, 2), -5);
        Due.is("24: p -1", x.judge(2, -1), -5);
        Due.is("25: none such is told first", x.kinds(2, 2, 9), -5);
        Due.is("25: sort -1", x.kinds(2, 0, -1), -7);
        Due.is("25: sort 2", x.kinds(2, 0, 2), -7);
        Due.is("26: none such is told first", x.states(2, 2, 9, 9), -1005);
        Due.is("26: sort -1", x.states(2, 0, -1, 0), -7000);
        Due.is("26: sort 2", x.states(2, 0, 2, 0), -7000);
        Due.is("26: what -1", x.states(2, 0, 0, -1), -7000);
        Due.is("26: what 2", x.states(2, 0, 0, 2), -7000);
        Due.is("27: none such", x.owners(2, 2), -5);
        Due.is("28: nobody is asked for", x.who(2), 0);
        Due.is("29: none such", x.laws(2, 2), -5);
    }

    private static void refusedAs(IcedTooSoon x, int s, int p, int refusal) {
        String of = " of sheet " + s;
        Due.is("24: judge" + of, x.judge(s, p), refusal);
        Due.is("25: kinds" + of, x.kinds(s, p, 9), refusal);
        Due.is("26: states" + of, x.states(s, p, 9, 9), refusal - 1000);
        Due.is("27: owners" + of, x.owners(s, p), refusal);
        Due.is("28: who" + of, x.who(s), refusal);
        Due.is("29: laws" + of, x.laws(s, p), refusal);
    }
}
