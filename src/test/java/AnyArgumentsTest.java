import java.lang.reflect.InvocationTargetException;
import java.lang.reflect.Method;
import java.util.Arrays;
import java.util.List;

/** All promises: no call throws, whatever its arguments; refusals and questions change nothing. */
public final class AnyArgumentsTest {
    private static final List<String> CHANGE = List.of("dawn", "feed", "text", "force", "guest", "order", "put", "day",
            "iced", "spill", "film", "image", "back", "sheet", "cell", "copy", "guestsBy");
    private static int asked = 0;

    public static void main(String[] args) throws IllegalAccessException {
        for (int seed = 0; seed < 300; seed++) {
            play(new RandomCalls(1000 + seed));
        }
        Due.is("calls", asked, 300L * 500);
        Due.end();
    }

    private static void play(RandomCalls calls) throws IllegalAccessException {
        IcedTooSoon x = new IcedTooSoon();
        int guests = calls.within(0, 6);
        for (int i = 0; i < guests; i++) {
            x.guest(calls.within(0, 59), calls.within(-99, 99));
        }
        for (int i = 0; i < 500; i++) {
            Method m = calls.any();
            int[] n = calls.numbersFor(m.getName());
            if (calls.upTo(2) == 0) {
                for (int k = 0; k < n.length; k++) {
                    n[k] = calls.edge();
                }
            }
            // looking is done by calls of its own, so only now and then
            boolean looks = calls.upTo(10) == 0;
            String before = looks ? look(x) : "";
            long answer = call(x, m, n);
            asked++;
            boolean stays = !CHANGE.contains(m.getName()) || isRefusal(m.getName(), answer);
            if (looks && stays && !before.equals(look(x))) {
                Due.is(m.getName() + Arrays.toString(n) + " changed something, and its answer", answer, Long.MIN_VALUE);
            }
        }
    }

    private static long call(IcedTooSoon x, Method m, int[] n) throws IllegalAccessException {
        try {
            return ((Number) m.invoke(x, RandomCalls.asArguments(n))).longValue();
        } catch (InvocationTargetException e) {
            Due.is(m.getName() + Arrays.toString(n) + " threw " + e.getCause() + ", and so", 1, 0);
            return 0;
        }
    }

    /** A fault empties the tape, and -12 of guestsBy() lets those ahead come. */
    private static boolean isRefusal(String call, long answer) {
        switch (call) {
            case "text": return answer == -4;
            case "put": return answer == -5000 || answer == -7000;
            case "spill": return answer == -6000;
            case "guestsBy": return answer < 0 && answer != -12;
            default: return answer < 0;
        }
    }

    private static String look(IcedTooSoon x) {
        StringBuilder seen = new StringBuilder();
        for (int what = 0; what < 6; what++) {
            seen.append(x.count(what)).append(' ');
        }
        for (int p = 0; p < 6; p++) {
            for (int what = 0; what < 6; what++) {
                seen.append(x.told(p, what)).append(' ');
            }
            for (int s = 0; s < 4; s++) {
                seen.append(x.judge(s, p)).append(' ');
            }
        }
        for (int g = 0; g < 10; g++) {
            for (int what = 0; what < 6; what++) {
                seen.append(x.glass(g, what)).append(' ');
            }
        }
        for (int s = 0; s < 4; s++) {
            seen.append(x.copy(s, 0, s, 0, 0)).append(' ');
            for (int other = 0; other < s; other++) {
                seen.append(x.copy(s, 0, other, 0, 0)).append(' ');
            }
            int size = 0;
            while (x.copy(s, size, s, size, 1) == 1) {
                size++;
            }
            seen.append(size).append('\n');
        }
        return seen.toString();
    }
}
