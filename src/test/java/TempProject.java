import java.io.IOException;
import java.nio.charset.StandardCharsets;
import java.nio.file.Files;
import java.nio.file.Path;
import java.nio.file.StandardCopyOption;
import java.util.Comparator;
import java.util.List;
import java.util.stream.Collectors;
import java.util.stream.Stream;

/** A folder of its own with copies of this project's files, in which commands can be run without a trace here. */
final class TempProject implements AutoCloseable {
    /** How a command ended, and what it printed. */
    record Ended(int exitCode, String printed) {
    }

    private final Path top;
    private final Path root;

    /** The project lies in a folder below the temporary one, so that ../shared can lie beside it. */
    TempProject() throws IOException {
        top = Files.createTempDirectory("mash");
        root = Files.createDirectory(top.resolve("main"));
    }

    /** Copies a file, or a folder with all below it, from this project. */
    void copy(String name) throws IOException {
        for (Path from : tree(Path.of(name))) {
            Path to = root.resolve(from.toString());
            Files.createDirectories(to.getParent());
            Files.copy(from, to, StandardCopyOption.COPY_ATTRIBUTES);
        }
    }

    void write(String name, String text) throws IOException {
        Path file = root.resolve(name).normalize();
        Files.createDirectories(file.getParent());
        Files.writeString(file, text);
    }

    void replace(String name, String old, String by) throws IOException {
        String text = Files.readString(root.resolve(name));
        if (!text.contains(old)) {
            throw new IllegalStateException(name + " has no " + old);
        }
        write(name, text.replace(old, by));
    }

    void delete(String name) throws IOException {
        Files.delete(root.resolve(name));
    }

    /** Runs shell commands in the project; the first that fails ends them. */
    Ended run(String commands) throws IOException, InterruptedException {
        Process process = new ProcessBuilder("sh", "-ec", commands)
            .directory(root.toFile()).redirectErrorStream(true).start();
        String printed = new String(process.getInputStream().readAllBytes(), StandardCharsets.UTF_8);
        return new Ended(process.waitFor(), printed);
    }

    @Override
    public void close() throws IOException {
        List<Path> all = tree(top);
        all.sort(Comparator.reverseOrder());
        for (Path path : all) {
            Files.delete(path);
        }
    }

    private static List<Path> tree(Path path) throws IOException {
        try (Stream<Path> paths = Files.walk(path)) {
            return paths.collect(Collectors.toList());
        }
    }
}
