import java.io.IOException;
import java.lang.reflect.Method;
import java.lang.reflect.Modifier;
import java.nio.file.DirectoryStream;
import java.nio.file.Files;
import java.nio.file.Path;
import java.util.ArrayList;
import java.util.List;
import java.util.regex.Matcher;
import java.util.regex.Pattern;

/** That README.md holds: its example, its commands, its paths, and that it leaves no call and no test out. */
public final class ReadmeTest {
    private static final Path README = Path.of("README.md");
    private static final String EXAMPLE = "HarbourExample";
    /** The command that runs this test, too; RunTest looks at it. */
    private static final String ALL_TESTS = ".ci/run";
    private static final Due due = new Due();

    private ReadmeTest() {
    }

    public static void main(String[] args) throws IOException, InterruptedException {
        List<String> readme = Files.readAllLines(README);
        due.head("README.md: ");
        Shell.inOwnDirectory(directory -> tryCommands(readme, directory));
        lookAtPaths(readme);
        lookAtCalls(readme);
        lookAtTests(readme);
        due.end();
    }

    /** Does all that a reader would do, in a place that looks like the checkout and its neighbour. */
    private static void tryCommands(List<String> readme, Path directory) throws IOException, InterruptedException {
        Path checkout = Files.createDirectory(directory.resolve("main"));
        Files.createSymbolicLink(checkout.resolve("src"), Path.of("src").toAbsolutePath());
        Files.createSymbolicLink(directory.resolve("shared"), Path.of("..", "shared").toAbsolutePath());
        List<List<String>> programs = blocks(readme, "java");
        List<List<String>> printed = blocks(readme, "text");
        List<List<String>> commands = blocks(readme, "sh");
        due.same("examples", programs.size(), 1);
        due.same("what examples print", printed.size(), 1);
        due.same("groups of commands", commands.size(), 3);
        due.same("the command for all tests", commands.contains(List.of(ALL_TESTS)), true);
        if (programs.size() != 1 || printed.size() != 1 || commands.size() != 3) {
            return;
        }
        Shell.write(checkout.resolve(EXAMPLE + ".java"), programs.get(0));
        Shell.Result example = runIn(checkout, commands.get(0));
        due.same("the example's exit code", example.code, 0);
        due.same("what the example prints", example.lines, printed.get(0));
        Shell.Result test = runIn(checkout, commands.get(2));
        due.same("the exit code of one test alone", test.code, 0);
        due.same("what one test alone prints", test.lines.toString().matches(".\\d+ answers looked at, 0 not as due."),
                true);
    }

    private static Shell.Result runIn(Path checkout, List<String> commands) throws IOException, InterruptedException {
        return Shell.run(checkout, "sh", "-eu", "-c", String.join("\n", commands));
    }

    /** The lines of each block of a language. */
    private static List<List<String>> blocks(List<String> readme, String language) {
        List<List<String>> blocks = new ArrayList<>();
        List<String> block = null;
        for (String line : readme) {
            if (line.equals("```" + language)) {
                block = new ArrayList<>();
            } else if (line.equals("```") && block != null) {
                blocks.add(block);
                block = null;
            } else if (block != null) {
                block.add(line);
            }
        }
        return blocks;
    }

    private static void lookAtPaths(List<String> readme) throws IOException {
        Matcher paths = Pattern.compile("`((?:\\.\\./|src/|\\.ci/)[^` ]*)`").matcher(String.join("\n", readme));
        int seen = 0;
        while (paths.find()) {
            Path path = Path.of(paths.group(1));
            boolean isThere = false;
            try (DirectoryStream<Path> found = Files.newDirectoryStream(path.getParent(),
                    path.getFileName().toString())) {
                isThere = found.iterator().hasNext();
            }
            due.same(path + " is there", isThere, true);
            seen++;
        }
        due.same("paths are named", seen > 0, true);
        due.same(ALL_TESTS + " can be run", Files.isExecutable(Path.of(ALL_TESTS)), true);
    }

    /** Each call has a place in the table, and what is in the table is a call. */
    private static void lookAtCalls(List<String> readme) {
        List<String> told = new ArrayList<>();
        for (String line : readme) {
            Matcher names = Pattern.compile("`(\\w+)`").matcher(line.startsWith("| ") ? line : "");
            while (names.find()) {
                told.add(names.group(1));
            }
        }
        List<String> calls = new ArrayList<>();
        for (Method method : HitHarbour.class.getDeclaredMethods()) {
            if (Modifier.isPublic(method.getModifiers())) {
                calls.add(method.getName());
            }
        }
        told.sort(null);
        calls.sort(null);
        due.same("the calls in the table", told, calls);
    }

    private static void lookAtTests(List<String> readme) throws IOException {
        String page = String.join("\n", readme);
        try (DirectoryStream<Path> tests = Files.newDirectoryStream(Path.of("src", "test", "java"), "*Test.java")) {
            for (Path test : tests) {
                String item = "- `src/test/java/" + test.getFileName() + "`:";
                due.same(test + " is told of", page.contains(item), true);
            }
        }
    }
}
