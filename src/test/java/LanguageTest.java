import java.io.IOException;
import java.lang.reflect.Constructor;
import java.lang.reflect.Field;
import java.lang.reflect.Method;
import java.lang.reflect.Modifier;
import java.nio.file.Files;
import java.nio.file.Path;
import java.util.ArrayList;
import java.util.Arrays;
import java.util.List;
import java.util.Map;
import java.util.Set;
import java.util.TreeMap;
import java.util.TreeSet;
import java.util.regex.Matcher;
import java.util.regex.Pattern;
import java.util.stream.Stream;

/** The face as the document writes it, and the rules of LANGUAGE.md that can be seen in the source. */
public final class LanguageTest {
    private static final String SOURCE = "src/main/java/IcedTooSoon.java";
    private static final String FACE = """
        int count(int)
        int dawn(int)
        int feed(int, int, int, int, int, int)
        int text()
        int force(int)
        int asks(int, int)
        int guest(int, int)
        int order(int, int, int)
        int put(int, int, int)
        int told(int, int)
        int glass(int, int)
        int day()
        int iced(int, int)
        int spill(int)
        int run(int, int)
        int goesOff(int)
        int worst(int, int, int)
        int falls(int, int)
        int again(int, int, int)
        int spilt(int, int)
        int round(int, int, int)
        long mean(int)
        int judge(int, int)
        int kinds(int, int, int)
        int states(int, int, int, int)
        int owners(int, int)
        int who(int)
        int laws(int, int)
        int film(int, int, int)
        int drawn(int, int)
        long odds(int, int, int, int)
        int image()
        int back()
        int sheet(int, int, int)
        int cell(int, int, int)
        int copy(int, int, int, int, int)
        int guestsBy(int, int, int, int)
        int taken(int, int)
        """;

    public static void main(String[] args) throws IOException {
        face();
        classesInside();
        source(Files.readString(Path.of(SOURCE)));
        Due.end();
    }

    private static void holds(String rule, boolean is) {
        Due.is(rule, is ? 1 : 0, 1);
    }

    private static void face() {
        Class<?> c = IcedTooSoon.class;
        holds("rule 1: public and final", Modifier.isPublic(c.getModifiers()) && Modifier.isFinal(c.getModifiers()));
        Set<String> names = new TreeSet<>();
        Set<String> due = new TreeSet<>(List.of(FACE.strip().split("\n")));
        Set<String> open = new TreeSet<>();
        for (Method m : c.getDeclaredMethods()) {
            if (!Modifier.isPrivate(m.getModifiers())) {
                String types = Arrays.toString(m.getParameterTypes()).replace("[", "(").replace("]", ")");
                open.add(m.getReturnType() + " " + m.getName() + types);
                names.add(m.getName());
                holds("rule 1: public: " + m, Modifier.isPublic(m.getModifiers()) && !Modifier.isStatic(m.getModifiers()));
            }
        }
        Set<String> unlike = new TreeSet<>(open);
        unlike.removeAll(due);
        due.removeAll(open);
        unlike.addAll(due);
        holds("rule 1: the methods of the face, but " + unlike, unlike.isEmpty());
        Constructor<?>[] made = c.getDeclaredConstructors();
        holds("rule 1: one constructor", made.length == 1 && made[0].getParameterCount() == 0 && Modifier.isPublic(made[0].getModifiers()));
        Set<String> constants = new TreeSet<>();
        for (Field f : c.getDeclaredFields()) {
            if (!Modifier.isPrivate(f.getModifiers())) {
                constants.add(f.getType() + " " + f.getName());
            }
            staticIsFinal(f);
        }
        holds("rule 1: the constants of the face: " + constants,
                constants.equals(Set.of("int NONE", "int BAD", "int STATE", "int FULL", "long NO")));
        Due.is("NONE", IcedTooSoon.NONE, -1);
        Due.is("BAD", IcedTooSoon.BAD, -2);
        Due.is("STATE", IcedTooSoon.STATE, -3);
        Due.is("FULL", IcedTooSoon.FULL, -4);
        Due.is("NO", IcedTooSoon.NO, -4611686018427387904L);
        for (Class<?> inner : c.getDeclaredClasses()) {
            for (Method m : inner.getDeclaredMethods()) {
                holds("rule 1: no other method bears a name of the face: " + m, !names.contains(m.getName()));
            }
        }
        for (Method m : c.getDeclaredMethods()) {
            holds("rule 1: no private method bears a name of the face: " + m,
                    Modifier.isPublic(m.getModifiers()) || !names.contains(m.getName()));
            holds("rule 11: seven parameters at most: " + m, m.getParameterCount() <= 7);
        }
    }

    private static void staticIsFinal(Field f) {
        if (Modifier.isStatic(f.getModifiers())) {
            holds("rule 5: final: " + f, Modifier.isFinal(f.getModifiers()));
            List<Class<?>> kinds = List.of(int.class, long.class, boolean.class, char.class, String.class,
                    int[].class, long[].class, char[].class, byte[].class);
            holds("rule 5: of a plain type: " + f, kinds.contains(f.getType()));
        }
    }

    private static void classesInside() {
        Class<?>[] inside = IcedTooSoon.class.getDeclaredClasses();
        holds("rule 11: twelve classes at most", inside.length < 12);
        for (Class<?> c : inside) {
            int flags = c.getModifiers();
            holds("rules 1, 2: static, not public: " + c,
                    Modifier.isStatic(flags) && !Modifier.isPublic(flags) && !Modifier.isProtected(flags));
            int own = 0;
            for (Field f : c.getDeclaredFields()) {
                staticIsFinal(f);
                own += Modifier.isStatic(f.getModifiers()) ? 0 : 1;
            }
            holds("rule 11: twenty fields at most: " + c, own <= 20);
            for (Method m : c.getDeclaredMethods()) {
                holds("rule 11: seven parameters at most: " + m, m.getParameterCount() <= 7);
            }
        }
    }

    private static void source(String text) {
        String code = Pattern.compile("/\\*.*?\\*/", Pattern.DOTALL).matcher(text).replaceAll("");
        code = code.replaceAll("//[^\n]*", "").replaceAll("\"[^\"\n]*\"", "\"\"");
        for (String word : List.of("throw", "throws", "try", "catch", "synchronized", "assert", "package", "double", "float",
                "System\\.(?!arraycopy)", "\\w+Exact", "Random", "Thread", "->", "::", "getClass", "hashCode", "toString",
                "static\\s*\\{", "import(?! java\\.util\\.(Arrays|ArrayList|List|Iterator);)")) {
            Matcher found = Pattern.compile("(?<!\\w)" + word).matcher(code);
            holds("rules 4 to 6: no " + word, !found.find() || word.matches("\\w+") && isPartOfWord(code, word));
        }
        for (int i = 0; i < text.length(); i++) {
            if (text.charAt(i) > 126) {
                Due.is("rule 4: sign at " + i, text.charAt(i), ' ');
            }
        }
        methodsAreShort(List.of(text.split("\n")));
        callsAreNotDeep(code);
    }

    /** The longest chains of calls; the library's count, too, and what calls itself counts once. */
    private static void callsAreNotDeep(String code) {
        Map<String, Set<String>> calls = callsOf(code);
        holds("rule 11: the calls of all methods of the face are known", calls.keySet().containsAll(
                Stream.of(FACE.strip().split("\n")).map(m -> m.replaceAll("\\w+ (\\w+).*", "$1")).toList()));
        for (String method : calls.keySet()) {
            List<String> chain = longestChain(method, calls, new ArrayList<>());
            holds("rule 11: calls go at most eight deep, but " + chain, chain.size() <= 8);
        }
    }

    /** Methods of one name stand as one. */
    private static Map<String, Set<String>> callsOf(String code) {
        Pattern head = Pattern.compile(" {4}(?: {4})?[\\w\\[\\] ]*?(\\w+)\\([^()]*\\) \\{");
        Pattern call = Pattern.compile("\\b(?!if\\b|for\\b|while\\b|switch\\b|return\\b)(\\w+)\\(");
        Map<String, Set<String>> calls = new TreeMap<>();
        String method = "";
        for (String line : code.split("\n")) {
            Matcher begins = head.matcher(line);
            if (begins.matches() && !line.matches(" +(if|for|while|switch) .*")) {
                method = begins.group(1);
                calls.putIfAbsent(method, new TreeSet<>());
                continue;
            }
            Matcher found = call.matcher(line);
            while (found.find()) {
                calls.computeIfAbsent(method, m -> new TreeSet<>()).add(found.group(1));
            }
        }
        return calls;
    }

    private static List<String> longestChain(String method, Map<String, Set<String>> calls, List<String> open) {
        open.add(method);
        List<String> longest = List.of();
        for (String next : calls.getOrDefault(method, Set.of())) {
            if (!open.contains(next)) {
                List<String> chain = longestChain(next, calls, open);
                longest = chain.size() > longest.size() ? chain : longest;
            }
        }
        open.remove(open.size() - 1);
        List<String> whole = new ArrayList<>(longest);
        if (whole.isEmpty() || !reaches(method, whole.get(0), calls) || !reaches(whole.get(0), method, calls)) {
            whole.add(0, method);
        }
        return whole;
    }

    private static boolean reaches(String from, String to, Map<String, Set<String>> calls) {
        Set<String> all = new TreeSet<>(calls.getOrDefault(from, Set.of()));
        int had = 0;
        while (had != all.size()) {
            had = all.size();
            for (String next : List.copyOf(all)) {
                all.addAll(calls.getOrDefault(next, Set.of()));
            }
        }
        return all.contains(to);
    }

    private static void methodsAreShort(List<String> lines) {
        for (int i = 0; i < lines.size(); i++) {
            Matcher head = Pattern.compile("( {4}| {8})\\w.*\\) \\{").matcher(lines.get(i));
            if (head.matches()) {
                int size = lines.subList(i, lines.size()).indexOf(head.group(1) + "}");
                holds("rule 11: a method of sixty lines at most: " + lines.get(i), size > 0 && size < 60);
            }
        }
    }

    private static boolean isPartOfWord(String code, String word) {
        return !Pattern.compile("\\b" + word + "\\b").matcher(code).find();
    }
}
