import java.io.IOException;
import java.net.URL;
import java.net.URLClassLoader;
import java.nio.file.Files;
import java.nio.file.Path;
import java.util.ArrayList;
import java.util.Comparator;
import java.util.List;
import java.util.regex.Matcher;
import java.util.regex.Pattern;
import java.util.stream.Stream;
import javax.tools.ToolProvider;

/** The examples of README.md, as one program: they compile, and each call answers what stands behind its //. */
public final class ReadmeTest {
    private static final Pattern BLOCK = Pattern.compile("```java\n(.*?)```", Pattern.DOTALL);
    private static final Pattern CALL = Pattern.compile(" *(x\\.\\w+\\(.*\\)); *// (-?\\d+)(:.*)?");

    private static final List<String> CALLS = new ArrayList<>();
    private static final List<Long> DUE = new ArrayList<>();

    public static void main(String[] args) throws Exception {
        Path folder = Files.createTempDirectory("readme");
        try {
            Path file = folder.resolve("ReadmeExamples.java");
            Files.writeString(file, program(Files.readString(Path.of("README.md"))));
            int failed = ToolProvider.getSystemJavaCompiler().run(null, null, null,
                    "-cp", System.getProperty("java.class.path"), "-d", folder.toString(), file.toString());
            Due.is("compiling the examples of README.md", failed, 0);
            if (failed == 0) {
                compare(answers(folder));
            }
        } finally {
            remove(folder);
        }
        Due.end();
    }

    private static String program(String page) {
        StringBuilder code = new StringBuilder("public final class ReadmeExamples {\n");
        code.append("public static void play(java.util.List<Long> answers) {\n");
        Matcher block = BLOCK.matcher(page);
        while (block.find()) {
            for (String line : block.group(1).split("\n")) {
                Matcher call = CALL.matcher(line);
                if (call.matches()) {
                    CALLS.add(call.group(1));
                    DUE.add(Long.valueOf(call.group(2)));
                    code.append("answers.add((long) ").append(call.group(1)).append(");\n");
                } else {
                    Due.is("README.md tells no answer in this line: " + line, line.contains("//") ? 1 : 0, 0);
                    code.append(line).append('\n');
                }
            }
        }
        return code.append("}\n}\n").toString();
    }

    private static List<Long> answers(Path folder) throws Exception {
        List<Long> answers = new ArrayList<>();
        URL[] places = {folder.toUri().toURL()};
        try (URLClassLoader loader = new URLClassLoader(places, ReadmeTest.class.getClassLoader())) {
            loader.loadClass("ReadmeExamples").getMethod("play", List.class).invoke(null, answers);
        }
        return answers;
    }

    private static void compare(List<Long> answers) {
        Due.is("README.md has examples", answers.isEmpty() ? 0 : 1, 1);
        for (int i = 0; i < answers.size(); i++) {
            Due.is("README.md, call " + (i + 1) + ": " + CALLS.get(i), answers.get(i), DUE.get(i));
        }
    }

    private static void remove(Path folder) throws IOException {
        try (Stream<Path> all = Files.walk(folder)) {
            List<Path> deepestFirst = all.sorted(Comparator.reverseOrder()).toList();
            for (Path path : deepestFirst) {
                Files.delete(path);
            }
        }
    }
}
