import java.lang.reflect.Method;
import java.lang.reflect.Modifier;
import java.util.ArrayList;
import java.util.Arrays;
import java.util.Comparator;
import java.util.List;
import java.util.Random;

/** Calls of the face, by chance but always the same ones: ordinary, at the edges, and wrong. */
final class RandomCalls {
    private static final int[] EDGES = {-1, 0, 1, 2, 3, 4, 5, 6, 9, 10, 11, 15, 16, 19, 20, 21, 25, 29, 39, 40, 41, 59,
        60, 61, 98, 99, 100, -98, -99, -100, 255, 256, 998, 999, 1000, -999, -1000, 99999, 100000,
        Integer.MAX_VALUE, Integer.MIN_VALUE};
    private final Random random;
    private final List<Method> face = new ArrayList<>();

    RandomCalls(long seed) {
        random = new Random(seed);
        for (Method m : IcedTooSoon.class.getDeclaredMethods()) {
            if (Modifier.isPublic(m.getModifiers())) {
                face.add(m);
            }
        }
        face.sort(Comparator.comparing(Method::getName));
    }

    int upTo(int n) {
        return random.nextInt(n);
    }

    Method any() {
        return face.get(upTo(face.size()));
    }

    int within(int low, int high) {
        return low + upTo(high - low + 1);
    }

    int edge() {
        return EDGES[upTo(EDGES.length)];
    }

    /** Numbers that are mostly as told. */
    int[] numbersFor(String call) {
        int[] n = ordinaryFor(call);
        if (n.length > 0 && upTo(12) == 0) {
            n[upTo(n.length)] = edge();
        }
        return n;
    }

    private int[] ordinaryFor(String call) {
        switch (call) {
            case "count": return row(within(0, 5));
            case "dawn": return row(upTo(4) == 0 ? within(990, 999) : within(0, 30));
            case "feed": return row(within(1, 5), aByte(), aByte(), aByte(), aByte(), aByte());
            case "force": return row(within(0, 5));
            case "asks": return row(within(0, 2), within(0, 9));
            case "guest": return row(within(0, 59), within(-99, 99));
            case "order": return row(within(0, 5), within(-99, 99), upTo(2) == 0 ? within(1, 30) : within(1, 99));
            case "put": return upTo(2) == 0 ? row(within(0, 5), 0, within(-99, 99)) : row(within(0, 5), 1, within(0, 99));
            case "told": return row(within(0, 5), within(0, 5));
            case "glass": return row(within(0, 9), within(0, 5));
            case "iced": return row(within(0, 9), within(0, 99));
            case "spill": return row(within(0, 9));
            case "run": return row(within(0, 40), upTo(2) == 0 ? within(0, 1) : within(1, 2) * 10 + within(0, 5));
            case "goesOff": return row(within(0, 9));
            case "worst": return row(within(0, 5), within(1, 40), within(0, 1));
            case "falls": return row(within(0, 40), within(-99, 99));
            case "again": return row(within(1, 99), within(1, 20), within(0, 1));
            case "spilt": return row(within(1, 20), within(0, 1));
            case "round": return row(within(1, 99), within(1, 10), within(0, 1));
            case "mean": return row(within(0, 1));
            case "judge": return row(within(0, 3), within(0, 5));
            case "kinds": return row(within(0, 3), within(0, 5), within(0, 1));
            case "states": return row(within(0, 3), within(0, 5), within(0, 1), within(0, 1));
            case "owners": return row(within(0, 3), within(0, 5));
            case "who": return row(within(0, 3));
            case "laws": return row(within(0, 3), within(0, 5));
            case "film": return row(within(0, 3), within(0, 5), within(0, 20));
            case "drawn": return row(within(0, 99999), within(0, 1));
            case "odds": return row(within(0, 99999), within(1, 40), within(-300, 300), within(0, 1));
            case "sheet": return row(within(0, 3), within(-1, 2), upTo(2) == 0 ? within(0, 40) : within(0, 12));
            case "cell": return row(within(0, 3), within(0, 11), upTo(3) == 0 ? random.nextInt() : within(-99, 99));
            case "copy": return row(within(0, 3), within(0, 8), within(0, 3), within(0, 8), within(0, 8));
            case "guestsBy": return row(within(0, 3), within(0, 2), within(0, 8), within(0, 6));
            case "taken": return row(within(0, 15), within(0, 6));
            default: return new int[0];
        }
    }

    private static int[] row(int... n) {
        return n;
    }

    private int aByte() {
        return upTo(3) == 0 ? within(0, 255) : " 1a(;-".charAt(upTo(6));
    }

    /** A text that is mostly good; sometimes with a byte that is another, missing, or one more. */
    String text() {
        String blank = upTo(3) == 0 ? "" : " ";
        String text = "melts " + e(3) + blank + ";feels " + e(4) + ";" + blank + "chills " + e(3) + ";";
        if (text.length() > 160) {
            return upTo(4) == 0 ? text.substring(0, 160) : text();
        }
        if (upTo(3) == 0) {
            String bytes = "abcdefghilmnorstw0123456789()+-*<=; \n\t?A";
            int at = upTo(text.length());
            char c = bytes.charAt(upTo(bytes.length()));
            int cut = upTo(3);
            text = text.substring(0, at) + (cut == 0 ? "" : c) + text.substring(cut == 2 ? at : at + 1);
        }
        return text.substring(0, Math.min(160, text.length()));
    }

    private String e(int deep) {
        if (deep <= 0 || upTo(4) == 0) {
            return leaf();
        }
        switch (upTo(9)) {
            case 0: return e(deep - 1) + " or " + e(deep - 1);
            case 1: return e(deep - 1) + " and " + e(deep - 1);
            case 2: return "not " + e(deep - 1);
            case 3: return e(deep - 1) + "<" + e(deep - 1);
            case 4: return e(deep - 1) + "=" + e(deep - 1);
            case 5: return e(deep - 1) + "+" + e(deep - 1);
            case 6: return e(deep - 1) + "-" + e(deep - 1);
            case 7: return "(" + e(deep - 1) + ")*" + leaf();
            default: return "-(" + e(deep - 1) + ")";
        }
    }

    private String leaf() {
        String[] leaves = {"weight", "ice", "cold", "mood", "day", "more", "weight", "7", "12", "3", "30", "9999"};
        return leaves[upTo(leaves.length)];
    }

    static Object[] asArguments(int[] n) {
        return Arrays.stream(n).boxed().toArray();
    }
}
