import java.io.IOException;
import java.io.UncheckedIOException;
import java.nio.file.Files;
import java.nio.file.Path;
import java.util.Comparator;
import java.util.stream.Stream;

/** Folders that a test makes for itself and leaves nothing of. */
final class Folders {
    private Folders() {
    }

    static void remove(Path folder) throws IOException {
        try (Stream<Path> all = Files.walk(folder)) {
            all.sorted(Comparator.reverseOrder()).forEach(Folders::removeOne);
        }
    }

    private static void removeOne(Path path) {
        try {
            Files.delete(path);
        } catch (IOException failed) {
            throw new UncheckedIOException(failed);
        }
    }
}
