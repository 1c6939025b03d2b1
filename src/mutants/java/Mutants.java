import java.io.IOException;
import java.nio.file.Files;
import java.nio.file.Path;
import java.util.ArrayList;
import java.util.LinkedHashSet;
import java.util.List;
import java.util.Set;
import java.util.concurrent.Callable;
import java.util.concurrent.ExecutorService;
import java.util.concurrent.Executors;
import java.util.concurrent.Future;
import java.util.concurrent.TimeUnit;
import java.util.regex.Matcher;
import java.util.regex.Pattern;
import java.util.stream.Stream;

/**
 * Breaks the class in one place at a time, and tells which of the broken ones a test still lets pass.
 * java src/mutants/java/Mutants.java EdgesTest [first line [last line]]
 */
public final class Mutants {
    private static final Path SOURCE = Path.of("src/main/java/IcedTooSoon.java");

    record Mutant(int line, String told, String source) {
    }

    public static void main(String[] args) throws Exception {
        String test = args.length > 0 ? args[0] : "EdgesTest";
        int first = args.length > 1 ? Integer.parseInt(args[1]) : 1;
        int last = args.length > 2 ? Integer.parseInt(args[2]) : Integer.MAX_VALUE;
        Path base = Files.createTempDirectory("mutants");
        List<String> compile = new ArrayList<>(List.of("javac", "-d", base.resolve("base").toString(), SOURCE.toString()));
        try (Stream<Path> tests = Files.list(Path.of("src/test/java"))) {
            tests.forEach(t -> compile.add(t.toString()));
        }
        if (call(compile, 60) != 0) {
            throw new IllegalStateException("the tests don't compile");
        }
        List<Mutant> all = mutants(Files.readString(SOURCE), first, last);
        ExecutorService many = Executors.newFixedThreadPool(Runtime.getRuntime().availableProcessors());
        List<Future<String>> told = new ArrayList<>();
        for (int i = 0; i < all.size(); i++) {
            Path dir = base.resolve("m" + i);
            Mutant m = all.get(i);
            told.add(many.submit((Callable<String>) () -> tried(m, dir, base.resolve("base"), test)));
        }
        int[] counts = new int[3];
        for (Future<String> f : told) {
            String answer = f.get();
            counts[answer.isEmpty() ? 0 : answer.equals("none") ? 1 : 2]++;
            if (!answer.isEmpty() && !answer.equals("none")) {
                System.out.println(answer);
            }
        }
        many.shutdown();
        System.out.println(counts[0] + " found, " + counts[1] + " no Java, " + counts[2] + " pass");
    }

    /** Empty: the test finds it; none: it doesn't compile. */
    private static String tried(Mutant m, Path dir, Path base, String test) throws Exception {
        Files.createDirectories(dir);
        Path file = dir.resolve("IcedTooSoon.java");
        Files.writeString(file, m.source());
        if (call(List.of("javac", "-J-XX:TieredStopAtLevel=1", "-nowarn", "-d", dir.toString(), file.toString()), 60) != 0) {
            return "none";
        }
        int code = call(List.of("java", "-XX:TieredStopAtLevel=1", "-Ddue.at.once=true", "-cp", dir + ":" + base, test), 120);
        return code == 0 ? "line " + m.line() + ": " + m.told() : "";
    }

    /** Its exit code; what runs too long counts as found. */
    private static int call(List<String> command, int seconds) throws IOException, InterruptedException {
        Process p = new ProcessBuilder(command).redirectErrorStream(true)
                .redirectOutput(ProcessBuilder.Redirect.DISCARD).start();
        if (!p.waitFor(seconds, TimeUnit.SECONDS)) {
            p.destroyForcibly();
            return 1;
        }
        return p.exitValue();
    }

    private static List<Mutant> mutants(String source, int first, int last) {
        List<Mutant> all = new ArrayList<>();
        String[] lines = source.split("\n", -1);
        for (int i = 0; i < lines.length; i++) {
            String line = lines[i];
            if (i + 1 < first || i + 1 > last || line.strip().matches("(//|/\\*|\\*|import|public (static )?final).*") || line.isBlank()) {
                continue;
            }
            for (String other : others(line)) {
                String[] changed = lines.clone();
                changed[i] = other;
                all.add(new Mutant(i + 1, line.strip() + "  ==>  " + other.strip(), String.join("\n", changed)));
            }
        }
        return all;
    }

    private static Set<String> others(String line) {
        Set<String> all = new LinkedHashSet<>();
        numbers(all, line);
        String[][] pairs = {{" < ", " <= "}, {" <= ", " < "}, {" > ", " >= "}, {" >= ", " > "}, {" == ", " != "}, {" != ", " == "},
            {" && ", " || "}, {" || ", " && "}, {" + ", " - "}, {" - ", " + "}, {" * ", " + "}, {" / ", " * "}, {" % ", " / "},
            {"Math.min", "Math.max"}, {"Math.max", "Math.min"}, {"++", "--"}, {"--", "++"}, {" |= ", " = "}, {" += ", " -= "},
            {" & ", " | "}, {" << ", " >> "}, {"!", ""}, {"true", "false"}, {"false", "true"}, {"-1", "1"}, {" -", " "}};
        for (String[] p : pairs) {
            for (int at = line.indexOf(p[0]); at >= 0; at = line.indexOf(p[0], at + 1)) {
                all.add(line.substring(0, at) + p[1] + line.substring(at + p[0].length()));
            }
        }
        String bare = line.strip();
        if (bare.endsWith(";") && !bare.startsWith("return") && !bare.matches("[\\w\\[\\]]+ \\w+( =.*)?;") && !bare.contains("final ")) {
            all.add(line.replace(bare, ";"));
        }
        if (bare.matches("if \\(.*\\) \\{")) {
            all.add(line.replaceFirst("if \\(.*\\) \\{", "if (true) {"));
            all.add(line.replaceFirst("if \\(.*\\) \\{", "if (false) {"));
        }
        all.remove(line);
        return all;
    }

    /** Each number, 1 more and 1 less. */
    private static void numbers(Set<String> all, String line) {
        Matcher m = Pattern.compile("(?<![\\w.\"'])\\d+(?![\\w\"'])").matcher(line);
        while (m.find()) {
            long v = Long.parseLong(m.group());
            for (long other : new long[] {v + 1, v - 1}) {
                all.add(line.substring(0, m.start()) + other + line.substring(m.end()));
            }
        }
    }
}
