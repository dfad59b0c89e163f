import java.io.IOException;
import java.io.UncheckedIOException;
import java.nio.charset.StandardCharsets;
import java.nio.file.Files;
import java.nio.file.Path;
import java.nio.file.StandardCopyOption;
import java.util.Comparator;
import java.util.List;
import java.util.stream.Collectors;
import java.util.stream.Stream;

/** A copy of some of the project, with a ../shared of its own, in which commands run and leave nothing here. */
final class ProjectCopy implements AutoCloseable {
    /** How a command ended, and what it wrote. */
    record Ended(int code, String written) { }

    private final Path place;
    private final Path project;

    /** Copies the files and folders that are named; they are found from the project's root on. */
    ProjectCopy(String... names) {
        try {
            place = Files.createTempDirectory("scrimshaw");
            project = Files.createDirectory(place.resolve("main"));
            for (String name : names) {
                copy(Path.of(name));
            }
        } catch (IOException e) {
            throw new UncheckedIOException(e);
        }
    }

    private void copy(Path from) throws IOException {
        for (Path path : under(from)) {
            if (Files.isRegularFile(path)) {
                Path to = project.resolve(path);
                Files.createDirectories(to.getParent());
                // What may be run here may be run there.
                Files.copy(path, to, StandardCopyOption.COPY_ATTRIBUTES);
            }
        }
    }

    private static List<Path> under(Path from) throws IOException {
        try (Stream<Path> paths = Files.walk(from)) {
            return paths.collect(Collectors.toList());
        }
    }

    /** Writes a file; its name goes from the copy's root on, and may begin with ../shared. */
    void write(String name, String text) {
        try {
            Path to = project.resolve(name).normalize();
            Files.createDirectories(to.getParent());
            Files.writeString(to, text);
        } catch (IOException e) {
            throw new UncheckedIOException(e);
        }
    }

    /** Runs a command as one that stands at the copy's root would. */
    Ended run(String command) {
        try {
            Process process = new ProcessBuilder("bash", "-c", command).directory(project.toFile())
                .redirectErrorStream(true).start();
            process.getOutputStream().close();
            String written = new String(process.getInputStream().readAllBytes(), StandardCharsets.UTF_8);
            return new Ended(process.waitFor(), written);
        } catch (IOException e) {
            throw new UncheckedIOException(e);
        } catch (InterruptedException e) {
            throw new IllegalStateException(e);
        }
    }

    @Override
    public void close() {
        try {
            List<Path> paths = under(place);
            paths.sort(Comparator.reverseOrder());
            for (Path path : paths) {
                Files.delete(path);
            }
        } catch (IOException e) {
            throw new UncheckedIOException(e);
        }
    }
}
