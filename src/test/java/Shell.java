import java.io.IOException;
import java.nio.charset.StandardCharsets;
import java.nio.file.Files;
import java.nio.file.Path;
import java.util.Comparator;
import java.util.List;
import java.util.stream.Stream;

/** Commands, and the folders that they are run in. */
final class Shell {
    private Shell() {
    }

    /** How a command ended, and what it printed. */
    record Result(int code, String printed) {
    }

    static Result run(Path folder, String... command) throws IOException, InterruptedException {
        Process process = new ProcessBuilder(command).directory(folder.toFile())
                .redirectErrorStream(true).start();
        process.getOutputStream().close();
        String printed = new String(process.getInputStream().readAllBytes(), StandardCharsets.UTF_8);
        return new Result(process.waitFor(), printed);
    }

    static void write(Path file, String text) throws IOException {
        Files.createDirectories(file.getParent());
        Files.writeString(file, text);
    }

    static void delete(Path folder) throws IOException {
        if (!Files.exists(folder)) {
            return;
        }
        List<Path> all;
        try (Stream<Path> walked = Files.walk(folder)) {
            all = walked.sorted(Comparator.reverseOrder()).toList();
        }
        for (Path path : all) {
            Files.delete(path);
        }
    }
}
