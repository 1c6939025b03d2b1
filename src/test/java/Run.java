import java.lang.reflect.InvocationTargetException;
import java.lang.reflect.Method;
import java.util.ArrayList;
import java.util.HashMap;
import java.util.List;
import java.util.Map;

/**
 * A run of calls on one object, written as in the document: "order(0, -40, 30)". What a question or a
 * refused call leaves is compared with what was there, as far as any call can see it.
 */
final class Run {
    private static final int CALLS = 512;
    private static final Map<String, Method> FACE = new HashMap<>();
    private final List<String> calls = new ArrayList<>();
    /** What is seen behind these calls; null while nobody has looked. */
    private List<String> seen = null;
    private final Live live = new Live();

    static {
        for (Method m : IcedTooSoon.class.getDeclaredMethods()) {
            FACE.put(m.getName(), m);
        }
    }

    /** An object, and how many calls it has had. */
    private static final class Live {
        private final IcedTooSoon x = new IcedTooSoon();
        private int had = 0;

        long answer(String call) {
            had++;
            if (had > CALLS) {
                Due.is(Doc.now() + call + " is a call too many, and so", had, CALLS);
            }
            int open = call.indexOf('(');
            Method m = FACE.get(call.substring(0, open));
            String inner = call.substring(open + 1, call.length() - 1).strip();
            String[] numbers = inner.isEmpty() ? new String[0] : inner.split(",");
            Object[] arguments = new Object[numbers.length];
            for (int i = 0; i < numbers.length; i++) {
                arguments[i] = Integer.valueOf(numbers[i].strip());
            }
            try {
                return ((Number) m.invoke(x, arguments)).longValue();
            } catch (InvocationTargetException e) {
                Due.is(Doc.now() + call + " threw " + e.getCause() + ", and so", 1, 0);
                return Long.MIN_VALUE;
            } catch (IllegalAccessException e) {
                throw new IllegalStateException(e);
            }
        }
    }

    /** Calls whose answers are looked at elsewhere. */
    static Run of(String... calls) {
        return new Run().then(calls);
    }

    /** A new object whose law is text 1. */
    static Run under(String text) {
        return new Run().text(text, 1).then("force(1)");
    }

    Run then(String... more) {
        for (String call : more) {
            live.answer(call);
            calls.add(call);
            seen = null;
        }
        return this;
    }

    /** A call that may change something. */
    Run does(String call, long due) {
        int behind = calls.size();
        long got = live.answer(call);
        calls.add(call);
        seen = null;
        Due.is(label(call, behind), got, due);
        return this;
    }

    /** A question: it changes nothing. */
    Run asks(String call, long due) {
        return changesNothing(call, due);
    }

    /** A refused call: it changes nothing. */
    Run refuses(String call, long due) {
        return changesNothing(call, due);
    }

    /** Bytes come behind the tape's, by fives. */
    Run feed(String bytes) {
        for (int i = 0; i < bytes.length(); i += 5) {
            int n = Math.min(5, bytes.length() - i);
            StringBuilder call = new StringBuilder("feed(").append(n);
            for (int k = 0; k < 5; k++) {
                int b = k < n ? bytes.charAt(i + k) : 0;
                call.append(", ").append(b);
            }
            then(call.append(")").toString());
        }
        return this;
    }

    Run text(String text, long due) {
        return feed(text).does("text()", due);
    }

    private String label(String call, int behind) {
        return Doc.now() + call + " behind " + calls.subList(Math.max(0, behind - 6), behind);
    }

    private Run changesNothing(String call, long due) {
        Due.is(label(call, calls.size()), again(calls).answer(call), due);
        return leaves(call);
    }

    /** A call that changes nothing, whatever it answers. */
    Run leaves(String call) {
        if (seen == null) {
            seen = look(calls);
        }
        List<String> with = new ArrayList<>(calls);
        with.add(call);
        List<String> then = look(with);
        for (int i = 0; i < Math.max(seen.size(), then.size()); i++) {
            String before = i < seen.size() ? seen.get(i) : "-";
            String after = i < then.size() ? then.get(i) : "-";
            if (!before.equals(after)) {
                Due.is(label(call, calls.size()) + " changes " + before + " to " + after + ", and so", 1, 0);
                break;
            }
        }
        return this;
    }

    private static Live again(List<String> calls) {
        Live twin = new Live();
        for (String call : calls) {
            twin.answer(call);
        }
        return twin;
    }

    /** All that can be seen behind those calls; what looking would change is looked at in a twin. */
    private static List<String> look(List<String> calls) {
        List<String> all = new ArrayList<>();
        Live house = again(calls);
        lookAtHouse(house, all);
        Live rows = again(calls);
        for (int s = 0; s < 4; s++) {
            int size = lookAtSize(rows, s, all);
            lookAtNumbers(again(calls), s, size, all);
        }
        lookAtTexts(again(calls), all);
        Live image = again(calls);
        note(image, "back()", all);
        lookAtHouse(image, all);
        return all;
    }

    private static long note(Live live, String call, List<String> all) {
        long answer = live.answer(call);
        all.add(call + " = " + answer);
        return answer;
    }

    private static void lookAtHouse(Live live, List<String> all) {
        for (int what = 0; what < 6; what++) {
            note(live, "count(" + what + ")", all);
        }
        for (int p = 0; p < 6; p++) {
            for (int what = 0; what < 6; what++) {
                note(live, "told(" + p + ", " + what + ")", all);
            }
        }
        for (int g = 0; g < 10; g++) {
            for (int what = 0; what < 6; what++) {
                note(live, "glass(" + g + ", " + what + ")", all);
            }
        }
    }

    /** Which sort it is of, and how many numbers it has. */
    private static int lookAtSize(Live live, int s, List<String> all) {
        for (int sort = 0; sort < 3; sort++) {
            note(live, "guestsBy(" + s + ", " + sort + ", 0, 0)", all);
        }
        int size = 0;
        for (int i = 1; i <= 40 && live.answer("copy(" + s + ", " + i + ", " + s + ", " + i + ", 0)") == 0; i++) {
            size = i;
        }
        all.add("size of " + s + " = " + size);
        return size;
    }

    /** A number is seen as the mood that a guest without glasses would have to be in. */
    private static void lookAtNumbers(Live live, int s, int size, List<String> all) {
        for (int g = 0; g < 10; g++) {
            live.answer("spill(" + g + ")");
        }
        live.answer("guest(0, 0)");
        int other = (s + 1) % 4;
        for (int sort = 0; sort < 3; sort++) {
            if (live.answer("guestsBy(" + s + ", " + sort + ", 0, 0)") == 0) {
                live.answer("sheet(" + other + ", " + sort + ", 1)");
            }
        }
        for (int i = 0; i < size; i++) {
            live.answer("copy(" + s + ", " + i + ", " + other + ", 0, 1)");
            note(live, "states(" + other + ", 0, 0, 1)", all);
        }
    }

    /** What the tape holds, as a text, and what each text says of a glass. */
    private static void lookAtTexts(Live live, List<String> all) {
        note(live, "text()", all);
        note(live, "count(3)", all);
        live.answer("guest(7, 12)");
        live.answer("spill(0)");
        live.answer("order(0, 34, 56)");
        for (int t = 0; t < 6; t++) {
            note(live, "force(" + t + ")", all);
            for (int part = 0; part < 3; part++) {
                note(live, "asks(" + part + ", 0)", all);
            }
        }
    }
}
