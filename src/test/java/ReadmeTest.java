import java.io.IOException;
import java.lang.reflect.Method;
import java.lang.reflect.Modifier;
import java.net.URL;
import java.net.URLClassLoader;
import java.nio.file.Files;
import java.nio.file.Path;
import java.util.ArrayList;
import java.util.Arrays;
import java.util.List;
import java.util.Set;
import java.util.TreeSet;
import java.util.regex.Matcher;
import java.util.regex.Pattern;
import java.util.stream.Collectors;
import java.util.stream.Stream;
import javax.tools.ToolProvider;

/** What README.md says is so: its example, its table of calls, its words for running the tests. */
public final class ReadmeTest {
    private static final Pattern ROW = Pattern.compile("(x\\.\\w+\\([^;]*\\));\\s*// (\\S+): \\S.*");
    private static final Checks CHECKS = new Checks();

    public static void main(String[] args) throws Exception {
        String page = Files.readString(Path.of("README.md"));
        String example = block(page, "java");
        exampleAnswersAsTold(example);
        exampleAndTableHaveEveryCall(example, page);
        wordsForTheTests(page);
        tableNamesEveryTest(page);
        CHECKS.finish();
    }

    /** The one block of that kind; without it there would be nothing to hold. */
    private static String block(String page, String kind) {
        Matcher found = Pattern.compile("(?s)```" + kind + "\n(.*?)```").matcher(page);
        CHECKS.holds("README.md has a block of " + kind, found.find());
        String block = found.group(1);
        CHECKS.holds("README.md has one block of " + kind, !found.find());
        return block;
    }

    private static void exampleAnswersAsTold(String example) throws Exception {
        String[] rows = example.split("\n");
        CHECKS.holds("the example makes an object first: " + rows[0],
            rows[0].startsWith("TrunkReserve x = new TrunkReserve();"));
        List<String> calls = new ArrayList<>();
        List<Long> told = new ArrayList<>();
        for (int i = 1; i < rows.length; i++) {
            Matcher row = ROW.matcher(rows[i]);
            CHECKS.holds("a call, and what it answers: " + rows[i], row.matches());
            calls.add(row.group(1));
            told.add(Script.answer(row.group(2)));
        }
        List<Long> got = answersOf(calls);
        for (int i = 0; i < calls.size(); i++) {
            CHECKS.due("README.md, row " + (i + 1) + ": " + calls.get(i), got.get(i), told.get(i));
        }
    }

    /** Compiled as it stands there, so that what a reader copies compiles, too. */
    private static List<Long> answersOf(List<String> calls) throws Exception {
        StringBuilder text = new StringBuilder("public final class Example {\n"
            + "    public static long[] answers() {\n        TrunkReserve x = new TrunkReserve();\n        return new long[] {\n");
        calls.forEach(call -> text.append("            ").append(call).append(",\n"));
        text.append("        };\n    }\n}\n");
        Path folder = Files.createTempDirectory("readme");
        Path source = Files.writeString(folder.resolve("Example.java"), text);
        int failed = ToolProvider.getSystemJavaCompiler().run(null, null, null, "-cp",
            System.getProperty("java.class.path"), "-d", folder.toString(), source.toString());
        CHECKS.due("javac of the example", failed, 0);
        try (URLClassLoader loader = new URLClassLoader(new URL[] {folder.toUri().toURL()})) {
            long[] answers = (long[]) loader.loadClass("Example").getMethod("answers").invoke(null);
            return Arrays.stream(answers).boxed().toList();
        } finally {
            Folders.remove(folder);
        }
    }

    private static void exampleAndTableHaveEveryCall(String example, String page) {
        Set<String> inTable = matches(page, "(?m)^\\| `(\\w+)\\(");
        Set<String> face = new TreeSet<>();
        for (Method m : TrunkReserve.class.getDeclaredMethods()) {
            if (Modifier.isPublic(m.getModifiers())) {
                face.add(m.getName());
                CHECKS.holds("the example calls " + m.getName(), example.contains("x." + m.getName() + "("));
                Matcher row = Pattern.compile("(?m)^\\| `" + m.getName() + "\\(([^)]*)\\)` \\|").matcher(page);
                CHECKS.holds("README.md has a row of " + m.getName(), row.find());
                int named = row.group(1).isEmpty() ? 0 : row.group(1).split(",").length;
                CHECKS.due("arguments of " + m.getName() + " in README.md", named, m.getParameterCount());
            }
        }
        CHECKS.holds("the calls in the table are those of the face: " + inTable, inTable.equals(face));
    }

    /** That this script runs them all is held by CiRunTest. */
    private static void wordsForTheTests(String page) {
        String words = block(page, "sh").trim();
        CHECKS.holds("README.md runs the tests by .ci/run: " + words, words.equals(".ci/run"));
        CHECKS.holds(".ci/run can be run", Files.isExecutable(Path.of(words)));
    }

    private static void tableNamesEveryTest(String page) throws IOException {
        Set<String> tests;
        try (Stream<Path> files = Files.walk(Path.of("src/test/java"))) {
            tests = files.map(file -> file.getFileName().toString()).filter(name -> name.endsWith("Test.java"))
                .map(name -> name.replace(".java", "")).collect(Collectors.toCollection(TreeSet::new));
        }
        Set<String> named = matches(page, "`(\\w+Test)`");
        CHECKS.holds("the tests that README.md names, " + named + ", are those there are, " + tests, named.equals(tests));
    }

    private static Set<String> matches(String page, String pattern) {
        return Pattern.compile(pattern).matcher(page).results().map(found -> found.group(1))
            .collect(Collectors.toCollection(TreeSet::new));
    }
}
