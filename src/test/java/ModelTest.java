import java.lang.reflect.Method;
import java.util.Arrays;

/** All promises: long runs of calls by chance, each answer compared with the model's. */
public final class ModelTest {
    private static final int RUNS = 400;
    private static final int CALLS = 512;

    private final RandomCalls calls;
    private final IcedTooSoon x = new IcedTooSoon();
    private final Model model = new Model();
    private final String run;
    private int left = CALLS;

    private ModelTest(int seed) {
        calls = new RandomCalls(seed);
        run = "run " + seed + ", call ";
    }

    public static void main(String[] args) throws ReflectiveOperationException {
        for (int seed = 0; seed < RUNS; seed++) {
            new ModelTest(seed).play();
        }
        Due.end();
    }

    private void play() throws ReflectiveOperationException {
        int guests = calls.within(0, 6);
        for (int i = 0; i < guests; i++) {
            both(method("guest"));
        }
        while (left > 0) {
            int chance = calls.upTo(40);
            if (chance == 0) {
                feed(calls.text());
            } else if (chance < 8) {
                both(method("order"));
            } else if (chance == 8) {
                film();
            } else {
                Method m = calls.any();
                // some would soon leave little to ask about
                if (!m.getName().equals("feed") && !m.getName().equals("spill") || calls.upTo(6) == 0) {
                    both(m);
                }
            }
        }
    }

    private static Method method(String name) {
        return Arrays.stream(IcedTooSoon.class.getDeclaredMethods()).filter(m -> m.getName().equals(name)).findFirst().get();
    }

    private void feed(String text) throws ReflectiveOperationException {
        both(method("text"));
        for (int i = 0; i < text.length(); i += 5) {
            int[] n = {Math.min(5, text.length() - i), 0, 0, 0, 0, 0};
            for (int k = 0; k < n[0]; k++) {
                n[k + 1] = text.charAt(i + k);
            }
            both(method("feed"), n);
        }
        both(method("text"));
        both(method("force"), calls.numbersFor("force"));
    }

    /** Days that are told as they will be, and what is asked of them. */
    private void film() throws ReflectiveOperationException {
        int s = calls.within(0, 3);
        int p = calls.within(0, 5);
        both(method("film"), s, p, calls.within(0, 12));
        if (calls.upTo(3) == 0) {
            both(method("cell"), s, calls.within(0, 11), calls.within(-99, 99));
        }
        both(method("judge"), s, p);
        both(method("kinds"), s, p, calls.within(0, 1));
        both(method("states"), s, p, calls.within(0, 1), calls.within(0, 1));
        both(method("owners"), s, p);
        both(method("who"), s);
        both(method("laws"), s, p);
    }

    private void both(Method m) throws ReflectiveOperationException {
        both(m, calls.numbersFor(m.getName()));
    }

    private void both(Method m, int... n) throws ReflectiveOperationException {
        if (left-- <= 0) {
            return;
        }
        Object[] arguments = RandomCalls.asArguments(n);
        long got = ((Number) m.invoke(x, arguments)).longValue();
        long due = ((Number) Model.class.getDeclaredMethod(m.getName(), m.getParameterTypes())
                .invoke(model, arguments)).longValue();
        Due.is(run + (CALLS - left) + ": " + m.getName() + Arrays.toString(n), got, due);
    }
}
