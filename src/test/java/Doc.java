import java.io.IOException;
import java.nio.file.Files;
import java.nio.file.Path;
import java.util.Map;
import java.util.TreeMap;

/**
 * The document's own words: each test of an edge names the sentence that it is for, and at the end
 * every word of it must have been named by one.
 */
final class Doc {
    /** Sections that aren't promises stand as promise 0 and below. */
    static final int TERMS = 0, WHAT_IT_IS = -1, FACE = -2, NOT_PROMISED = -3;
    private static final int PROMISES = 39;
    private static final Path PAGE = Path.of("../shared/DOC.md");
    private static final Map<Integer, String> SECTIONS = new TreeMap<>();
    private static final Map<Integer, boolean[]> NAMED = new TreeMap<>();
    private static String now = "";

    private Doc() {
    }

    static String now() {
        return now;
    }

    /** From here on, the answers are due by these words of a promise. */
    static void says(int promise, String words) {
        now = nameOf(promise) + " [" + words + "]: ";
        if (!isHere()) {
            return;
        }
        if (SECTIONS.isEmpty()) {
            read();
        }
        String section = SECTIONS.getOrDefault(promise, "");
        int at = section.indexOf(words);
        if (at < 0) {
            Due.is(now + "stands in the document", 0, 1);
            return;
        }
        for (int i = at; i < at + words.length(); i++) {
            NAMED.get(promise)[i] = true;
        }
    }

    /** Words that no test has named. */
    static void audit() {
        if (!isHere()) {
            System.out.println(PAGE + " isn't here: which of its words no test names stays open");
            return;
        }
        for (int promise = NOT_PROMISED; promise <= PROMISES; promise++) {
            String section = SECTIONS.getOrDefault(promise, "");
            Due.is(nameOf(promise) + " is in the document", section.isEmpty() ? 0 : 1, 1);
            StringBuilder left = new StringBuilder();
            for (int i = 0; i < section.length(); i++) {
                left.append(NAMED.get(promise)[i] ? ' ' : section.charAt(i));
            }
            String words = left.toString().replaceAll("\\s+", " ").strip();
            Due.is(nameOf(promise) + ": no test names [" + words + "]", words.length(), 0);
        }
    }

    private static String nameOf(int promise) {
        switch (promise) {
            case TERMS: return "Terms";
            case WHAT_IT_IS: return "What it is";
            case FACE: return "The public face";
            case NOT_PROMISED: return "Not promised";
            default: return "promise " + promise;
        }
    }

    /** The answers are due without the page, too; only what it says can't be compared then. */
    private static boolean isHere() {
        return Files.isReadable(PAGE);
    }

    private static void read() {
        String page = "";
        try {
            page = Files.readString(PAGE);
        } catch (IOException e) {
            Due.is("the document can be read: " + e, 0, 1);
        }
        for (String part : page.split("\n## ")) {
            String head = part.substring(0, Math.max(0, part.indexOf('\n')));
            String body = part.substring(head.length());
            for (int promise = NOT_PROMISED; promise <= TERMS; promise++) {
                if (head.equals(nameOf(promise))) {
                    keep(promise, body.replaceAll("```\\w*", "").replaceAll("Ahead of the calls [^\n]*", ""));
                }
            }
            if (head.matches("Promise \\d+: .*")) {
                keep(Integer.parseInt(head.replaceAll("\\D", "")), body.replaceFirst("`[^`]*`: ", ""));
            }
        }
    }

    private static void keep(int promise, String body) {
        String words = body.replaceAll("======== 2", "").replaceAll("\\s+", " ").strip();
        SECTIONS.put(promise, words);
        NAMED.put(promise, new boolean[words.length()]);
    }
}
