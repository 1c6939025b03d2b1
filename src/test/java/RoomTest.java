import java.lang.management.ManagementFactory;

/** A run's objects are never given back: so an object is made small, and its calls make next to nothing. */
public final class RoomTest {
    private static final int RUNS = 200;
    private static final int CALLS = 500;

    public static void main(String[] args) {
        com.sun.management.ThreadMXBean threads = (com.sun.management.ThreadMXBean) ManagementFactory.getThreadMXBean();
        long me = Thread.currentThread().getId();
        play(new IcedTooSoon());
        long before = threads.getThreadAllocatedBytes(me);
        IcedTooSoon[] made = new IcedTooSoon[RUNS];
        for (int i = 0; i < RUNS; i++) {
            made[i] = new IcedTooSoon();
        }
        long each = (threads.getThreadAllocatedBytes(me) - before) / RUNS;
        Due.is("an object of " + each + " bytes is below 8000", each < 8000 ? 1 : 0, 1);
        before = threads.getThreadAllocatedBytes(me);
        for (IcedTooSoon x : made) {
            play(x);
        }
        long calls = (threads.getThreadAllocatedBytes(me) - before) / RUNS;
        Due.is(CALLS + " calls of " + calls + " bytes are below 8000", calls < 8000 ? 1 : 0, 1);
        Due.end();
    }

    private static void play(IcedTooSoon x) {
        for (int p = 0; p < 6; p++) {
            x.guest(11 * p, 0);
        }
        for (int i = 0; i < CALLS / 25; i++) {
            x.order(i % 6, 5 * i - 40, 30);
            x.told(0, 5);
            x.goesOff(3);
            x.run(40, 1);
            x.worst(1, 40, 0);
            x.falls(40, 0);
            x.again(30, 20, 0);
            x.spilt(20, 0);
            x.round(30, 10, 0);
            x.mean(0);
            x.film(i % 4, 2, 20);
            x.judge(i % 4, 2);
            x.kinds(i % 4, 2, 0);
            x.states(i % 4, 2, 0, 0);
            x.owners(i % 4, 2);
            x.who(i % 4);
            x.laws(i % 4, 2);
            x.odds(i, 40, 0, 0);
            x.image();
            x.back();
            x.sheet(i % 4, 2, 40);
            x.copy(i % 4, 0, i % 4, 1, 39);
            x.feed(1, '?', 0, 0, 0, 0);
            x.text();
            x.guestsBy(i % 4, 2, 0, 6);
        }
    }
}
