import java.io.IOException;
import java.nio.file.Files;
import java.nio.file.Path;
import java.nio.file.StandardCopyOption;
import java.util.ArrayList;
import java.util.List;

/** That .ci/run runs every test and fails if one does, in small projects with a copy of it. */
public final class RunTest {
    private static final Path SCRIPT = Path.of(".ci", "run");
    private static final String PASS = "";
    private static final String END_WITH_1 = "System.exit(1);";
    private static final String THROW = "throw new IllegalStateException();";
    private static final String NO_JAVA = "no java";
    private static final Due due = new Due();

    private RunTest() {
    }

    public static void main(String[] args) throws IOException, InterruptedException {
        Shell.inOwnDirectory(RunTest::allPass);
        Shell.inOwnDirectory(RunTest::someFail);
        Shell.inOwnDirectory(RunTest::noSharedTests);
        due.end();
    }

    private static void allPass(Path directory) throws IOException, InterruptedException {
        makeProject(directory);
        sharedTest(directory, "Runs", PASS);
        ownTest(directory, "OneTest", "Helper.help();");
        compare("all pass", run(directory), 0, "2 passed, 0 failed", List.of("ok   Runs", "ok   OneTest"));
    }

    private static void someFail(Path directory) throws IOException, InterruptedException {
        makeProject(directory);
        sharedTest(directory, "FirstRuns", END_WITH_1);
        sharedTest(directory, "SecondRuns", PASS);
        ownTest(directory, "ATest", THROW);
        ownTest(directory, "BTest", NO_JAVA);
        ownTest(directory, "CTest", END_WITH_1);
        ownTest(directory, "DTest", PASS);
        compare("some fail", run(directory), 1, "2 passed, 4 failed", List.of("FAIL FirstRuns", "ok   SecondRuns",
                "FAIL ATest", "FAIL BTest", "FAIL CTest", "ok   DTest"));
    }

    private static void noSharedTests(Path directory) throws IOException, InterruptedException {
        makeProject(directory);
        ownTest(directory, "OneTest", PASS);
        compare("no shared tests", run(directory), 1, "1 passed, 1 failed",
                List.of("FAIL no tests under ../shared/tests", "ok   OneTest"));
    }

    /** A checkout beside what is shared, with a class and a helper of its own. */
    private static void makeProject(Path directory) throws IOException {
        Path checkout = directory.resolve("main");
        Files.createDirectories(checkout.resolve(SCRIPT).getParent());
        Files.copy(SCRIPT, checkout.resolve(SCRIPT), StandardCopyOption.COPY_ATTRIBUTES);
        Shell.write(checkout.resolve("src/main/java/HitHarbour.java"), List.of("public final class HitHarbour { }"));
        Shell.write(checkout.resolve("src/test/java/support/Helper.java"),
                List.of("final class Helper { static void help() { } }"));
    }

    private static void sharedTest(Path directory, String name, String body) throws IOException {
        Shell.write(directory.resolve("shared/tests/" + name + ".java"), program(name, body));
    }

    private static void ownTest(Path directory, String name, String body) throws IOException {
        Shell.write(directory.resolve("main/src/test/java/" + name + ".java"), program(name, body));
    }

    /** A test that makes a harbour, so that it needs the class, and then does what it is for. */
    private static List<String> program(String name, String body) {
        return List.of("public final class " + name + " {", "public static void main(String[] args) {",
                "new HitHarbour();", body, "}", "}");
    }

    /** Runs the script from elsewhere, as a checkout may be anywhere. */
    private static Shell.Result run(Path directory) throws IOException, InterruptedException {
        return Shell.run(directory, "sh", directory.resolve("main").resolve(SCRIPT).toString());
    }

    private static void compare(String what, Shell.Result result, int code, String last, List<String> each) {
        List<String> told = new ArrayList<>();
        for (String line : result.lines) {
            if (line.startsWith("ok ") || line.startsWith("FAIL ")) {
                told.add(line);
            }
        }
        due.same(what + ": exit code", result.code, code);
        due.same(what + ": each test", told, each);
        due.same(what + ": last line", result.lines.isEmpty() ? "" : result.lines.get(result.lines.size() - 1), last);
    }
}
