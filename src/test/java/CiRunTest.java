import java.io.IOException;
import java.nio.file.Files;
import java.nio.file.Path;
import java.util.ArrayList;
import java.util.Arrays;
import java.util.List;

/**
 * .ci/run itself, on small projects with the real class: it runs every test of the project and every one under
 * ../shared/tests, and fails if one fails or does not compile, or if there is none.
 */
public final class CiRunTest {
    private static final String OWN = "main/src/test/java/", SHARED = "shared/tests/";
    private static final String CLASS = "main/src/main/java/TrunkReserve.java";
    private static final Checks CHECKS = new Checks();

    private record Case(String name, Path folder, Process process, boolean passes, List<String> says) { }

    private final List<Case> cases = new ArrayList<>();

    public static void main(String[] args) throws Exception {
        CiRunTest test = new CiRunTest();
        test.allPass();
        test.ownFails();
        test.sharedFails();
        test.classFails();
        // Begun all at once, for each of them waits for several compilers.
        for (Case one : test.cases) {
            test.judge(one);
        }
        CHECKS.finish();
    }

    private void allPass() throws IOException {
        begin("all pass", true, List.of("passed: OneTest", "passed: OtherTest", "passed: shared Runs",
            "passed: shared MoreRuns", "4 passed, 0 failed"));
        begin("a test in a folder below", true, List.of("passed: DeepTest", "passed: shared DeepRuns", "6 passed, 0 failed"),
            OWN + "below/DeepTest.java", good("DeepTest"), SHARED + "below/DeepRuns.java", good("DeepRuns"));
        begin("what helps a test is not run", true, List.of("4 passed, 0 failed"),
            OWN + "Helper.java", "final class Helper { static final int HELD = 1; }",
            OWN + "OneTest.java", good("OneTest").replace("told(6) == 0", "told(6) == Helper.HELD - 1"));
    }

    private void ownFails() throws IOException {
        begin("an own test ends with 1", false, List.of("FAILED: OneTest", "passed: OtherTest", "passed: shared Runs",
            "3 passed, 1 failed"), OWN + "OneTest.java", bad("OneTest"));
        begin("an own test throws", false, List.of("FAILED: OtherTest", "passed: OneTest"),
            OWN + "OtherTest.java", good("OtherTest").replace("x.told(6)", "1 / x.told(6)"));
        begin("an own test in a folder below fails", false, List.of("FAILED: DeepTest", "4 passed, 1 failed"),
            OWN + "below/DeepTest.java", bad("DeepTest"));
        begin("an own test does not compile", false, List.of("FAILED: src/test/java does not compile"),
            OWN + "OneTest.java", good("OneTest").replace("told", "tells"));
        begin("no own test", false, List.of("FAILED: no test under src/test/java"),
            OWN + "OneTest.java", "", OWN + "OtherTest.java", "");
    }

    private void sharedFails() throws IOException {
        begin("a shared test ends with 1", false, List.of("FAILED: shared Runs", "passed: shared MoreRuns",
            "3 passed, 1 failed"), SHARED + "Runs.java", bad("Runs"));
        begin("a shared test in a folder below fails", false, List.of("FAILED: shared DeepRuns", "4 passed, 1 failed"),
            SHARED + "below/DeepRuns.java", bad("DeepRuns"));
        begin("a shared test does not compile", false, List.of("FAILED: shared Runs does not compile",
            "passed: shared MoreRuns"), SHARED + "Runs.java", good("Runs").replace("told", "tells"));
        begin("no shared test", false, List.of("FAILED: no test under ../shared/tests"),
            SHARED + "Runs.java", "", SHARED + "MoreRuns.java", "");
    }

    private void classFails() throws IOException {
        String real = Files.readString(Path.of("src/main/java/TrunkReserve.java"));
        begin("the class does not compile", false, List.of("0 passed, "), CLASS, real.replace("net.size;", "net.sizes;"));
        begin("the class compiles with a warning", false, List.of("does not compile without a warning"),
            CLASS, real.replace("case 0: return net.size;", "case 0: if (what < 0); return net.size;"));
    }

    private static String good(String name) {
        return "public final class " + name + " { public static void main(String[] args) { TrunkReserve x = new TrunkReserve();"
            + " boolean is = x.told(6) == 0; System.out.println(is); if (!is) { System.exit(1); } } }";
    }

    private static String bad(String name) {
        return good(name).replace("== 0", "== 7");
    }

    /** The texts, path and content by turns, come over those of a project that passes; an empty one takes its file away. */
    private void begin(String name, boolean passes, List<String> says, String... texts) throws IOException {
        Path folder = Files.createTempDirectory("cirun");
        put(folder, CLASS, Files.readString(Path.of("src/main/java/TrunkReserve.java")));
        put(folder, "main/.ci/run", Files.readString(Path.of(".ci/run")));
        put(folder, OWN + "OneTest.java", good("OneTest"));
        put(folder, OWN + "OtherTest.java", good("OtherTest"));
        put(folder, SHARED + "Runs.java", good("Runs"));
        put(folder, SHARED + "MoreRuns.java", good("MoreRuns"));
        for (int i = 0; i + 1 < texts.length; i += 2) {
            put(folder, texts[i], texts[i + 1]);
        }
        // From another folder, for the script has to find its own.
        Process process = new ProcessBuilder("sh", folder.resolve("main/.ci/run").toString())
            .directory(folder.toFile()).redirectErrorStream(true).redirectOutput(folder.resolve("said").toFile()).start();
        cases.add(new Case(name, folder, process, passes, says));
    }

    private static void put(Path folder, String path, String content) throws IOException {
        Path file = folder.resolve(path);
        Files.createDirectories(file.getParent());
        if (content.isEmpty()) {
            Files.delete(file);
        } else {
            Files.writeString(file, content);
        }
    }

    private void judge(Case one) throws Exception {
        int exit = one.process.waitFor();
        String said = Files.readString(one.folder.resolve("said"));
        CHECKS.holds(one.name + ": .ci/run ends with " + exit + " and says\n" + said, one.passes == (exit == 0));
        for (String words : one.says) {
            CHECKS.holds(one.name + ": .ci/run says \"" + words + "\", not\n" + said,
                Arrays.stream(said.split("\n")).anyMatch(row -> row.contains(words)));
        }
        Folders.remove(one.folder);
    }
}
