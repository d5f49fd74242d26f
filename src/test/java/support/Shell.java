import java.io.IOException;
import java.nio.charset.StandardCharsets;
import java.nio.file.Files;
import java.nio.file.Path;
import java.util.ArrayList;
import java.util.Collections;
import java.util.List;
import java.util.stream.Stream;

/** Runs commands in directories of their own. */
final class Shell {
    /** What a command printed, errors too, and its exit code. */
    static final class Result {
        final int code;
        final List<String> lines;

        Result(int code, List<String> lines) {
            this.code = code;
            this.lines = lines;
        }
    }

    /** What is done in a directory that is gone behind it. */
    interface Work {
        void in(Path directory) throws IOException, InterruptedException;
    }

    private Shell() {
    }

    static void inOwnDirectory(Work work) throws IOException, InterruptedException {
        Path directory = Files.createTempDirectory("harbour");
        try {
            work.in(directory);
        } finally {
            remove(directory);
        }
    }

    private static void remove(Path directory) throws IOException {
        List<Path> paths = new ArrayList<>();
        try (Stream<Path> walked = Files.walk(directory)) {
            walked.forEach(paths::add);
        }
        // What is within comes ahead of what it is in; links are not followed.
        Collections.reverse(paths);
        for (Path path : paths) {
            Files.delete(path);
        }
    }

    /** Writes lines into a file, with the directories that it is in. */
    static void write(Path file, List<String> lines) throws IOException {
        Files.createDirectories(file.getParent());
        Files.write(file, lines);
    }

    static Result run(Path directory, String... command) throws IOException, InterruptedException {
        Process process = new ProcessBuilder(command).directory(directory.toFile()).redirectErrorStream(true).start();
        process.getOutputStream().close();
        String printed = new String(process.getInputStream().readAllBytes(), StandardCharsets.UTF_8);
        return new Result(process.waitFor(), printed.isEmpty() ? List.of() : List.of(printed.split("\\R")));
    }
}
