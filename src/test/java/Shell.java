import java.io.IOException;
import java.nio.charset.StandardCharsets;
import java.nio.file.Files;
import java.nio.file.Path;
import java.util.Comparator;
import java.util.List;
import java.util.stream.Stream;

/** Runs commands in a folder of its own, beside whose files the project's sources stand. */
final class Shell implements AutoCloseable {
    private final Path folder;

    Shell() throws IOException {
        folder = Files.createTempDirectory("readme");
        Files.createSymbolicLink(folder.resolve("src"), Path.of("src").toAbsolutePath());
    }

    void write(String file, List<String> lines) throws IOException {
        Files.write(folder.resolve(file), lines);
    }

    /** What the commands print; each of them must end with exit code 0. */
    String run(List<String> commands) throws IOException, InterruptedException {
        Process process = new ProcessBuilder("bash", "-e", "-c", String.join("\n", commands))
                .directory(folder.toFile()).redirectErrorStream(true).start();
        process.getOutputStream().close();
        String printed = new String(process.getInputStream().readAllBytes(), StandardCharsets.UTF_8);
        Checks.same(commands + " printed " + printed + "and its exit code", process.waitFor(), 0);
        return printed;
    }

    /** A link is removed, not followed. */
    @Override
    public void close() throws IOException {
        try (Stream<Path> all = Files.walk(folder)) {
            for (Path path : all.sorted(Comparator.reverseOrder()).toList()) {
                Files.delete(path);
            }
        }
    }
}
