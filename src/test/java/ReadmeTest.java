import java.io.File;
import java.io.IOException;
import java.net.URL;
import java.net.URLClassLoader;
import java.nio.charset.StandardCharsets;
import java.nio.file.Files;
import java.nio.file.Path;
import java.util.ArrayList;
import java.util.Comparator;
import java.util.List;
import java.util.Set;
import java.util.TreeSet;
import java.util.regex.Matcher;
import java.util.regex.Pattern;
import java.util.stream.Stream;
import javax.tools.ToolProvider;

/** What README.md shows is so when it is tried: its calls answer as it says, its commands run, its tables are whole. */
public final class ReadmeTest {
    private static final Checks c = new Checks("ReadmeTest");

    /** A call, and what it answers: a number, or a constant of the face. */
    private static final Pattern SHOWN = Pattern.compile("\\s*(x\\.\\w+\\(.*\\));\\s*// (-?\\d+|NONE|BAD|STATE|FULL):.*");

    public static void main(String[] args) throws Exception {
        List<String> lines = Files.readAllLines(Path.of("README.md"), StandardCharsets.UTF_8);
        Path folder = Files.createTempDirectory("readme");
        try {
            calls(shownCode(lines), folder);
            commands(lines, folder);
        } finally {
            remove(folder);
        }
        numbers(String.join("\n", lines));
        tests(lines);
        c.end();
    }

    /** All lines of Java that the page shows, in one run. */
    private static List<String> shownCode(List<String> lines) {
        List<String> code = new ArrayList<>();
        boolean within = false;
        for (String line : lines) {
            if (line.startsWith("```")) {
                within = line.equals("```java");
            } else if (within) {
                code.add(line);
            }
        }
        return code;
    }

    private static void calls(List<String> code, Path folder) throws Exception {
        StringBuilder source = new StringBuilder("public final class Shown {\npublic static void fill(java.util.List<Integer> got) {\n");
        List<String> asked = new ArrayList<>();
        List<Integer> due = new ArrayList<>();
        for (String line : code) {
            Matcher m = SHOWN.matcher(line);
            if (m.matches()) {
                source.append("got.add(").append(m.group(1)).append(");\n");
                asked.add(m.group(1));
                due.add(numberOf(m.group(2)));
            } else {
                c.holds("a comment that tells an answer is tried: " + line, !line.contains("//"));
                source.append(line).append('\n');
            }
        }
        List<Integer> got = answers(source.append("}\n}\n").toString(), folder);
        c.due("calls that were tried", got.size(), asked.size());
        c.holds("calls are shown", asked.size() > 30);
        for (int i = 0; i < Math.min(got.size(), due.size()); i++) {
            c.due(asked.get(i), got.get(i), due.get(i));
        }
    }

    private static int numberOf(String word) {
        switch (word) {
            case "NONE": return Checks.NONE;
            case "BAD": return Checks.BAD;
            case "STATE": return Checks.STATE;
            case "FULL": return Checks.FULL;
            default: return Integer.parseInt(word);
        }
    }

    private static List<Integer> answers(String source, Path folder) throws Exception {
        Path file = folder.resolve("Shown.java");
        Files.writeString(file, source);
        String classes = System.getProperty("java.class.path");
        int compiled = ToolProvider.getSystemJavaCompiler().run(null, null, null, "-d", folder.toString(), "-cp", classes, file.toString());
        c.due("the Java that is shown compiles", compiled, 0);
        List<Integer> got = new ArrayList<>();
        try (URLClassLoader loader = new URLClassLoader(new URL[] {folder.toUri().toURL()})) {
            loader.loadClass("Shown").getMethod("fill", List.class).invoke(null, got);
        }
        return got;
    }

    /** The lines that stand alone, four bytes in. .ci/run can't be run by what it runs; the others are. */
    private static void commands(List<String> lines, Path folder) throws Exception {
        int seen = 0;
        for (String line : lines) {
            if (line.startsWith("    ") && !line.equals("    .ci/run") && !shownCode(lines).contains(line)) {
                seen++;
                ProcessBuilder command = new ProcessBuilder("sh", "-c", line.trim()).redirectErrorStream(true);
                command.environment().put("TMPDIR", folder.toString());
                Process running = command.start();
                String said = new String(running.getInputStream().readAllBytes(), StandardCharsets.UTF_8);
                c.due(line.trim(), running.waitFor(), 0);
                c.holds("its test was run: " + said, said.contains("ActsTest: ") && said.contains(" checks, 0 wrong"));
            }
        }
        c.due("commands by hand", seen, 1);
        c.holds(".ci/run is shown", lines.contains("    .ci/run"));
        c.holds(".ci/run can be run", Files.isExecutable(Path.of(".ci/run")));
    }

    private static void numbers(String page) {
        c.holds("NONE", page.contains("`NONE` " + YoungerBack.NONE + " "));
        c.holds("BAD", page.contains("`BAD` " + YoungerBack.BAD + " "));
        c.holds("STATE", page.contains("`STATE` " + YoungerBack.STATE + " "));
        c.holds("FULL", page.contains("`FULL` " + YoungerBack.FULL + " "));
        c.holds("findings", page.contains("| " + Checks.NULL + " .. " + Checks.STORE + " |"));
    }

    /** The table of tests names each that there is, and no other. */
    private static void tests(List<String> lines) throws IOException {
        Set<String> told = new TreeSet<>();
        for (String line : lines) {
            Matcher m = Pattern.compile("\\| `(\\w+Test)` \\| .*").matcher(line);
            if (m.matches()) {
                c.holds(line + " stands once", told.add(m.group(1)));
            }
        }
        Set<String> there = new TreeSet<>();
        try (Stream<Path> files = Files.list(Path.of("src/test/java"))) {
            files.map(file -> file.getFileName().toString()).filter(name -> name.endsWith("Test.java"))
                .forEach(name -> there.add(name.substring(0, name.length() - ".java".length())));
        }
        c.holds("tests told: " + told + ", there: " + there, told.equals(there));
    }

    private static void remove(Path folder) throws IOException {
        try (Stream<Path> files = Files.walk(folder)) {
            files.sorted(Comparator.reverseOrder()).map(Path::toFile).forEach(File::delete);
        }
    }
}
