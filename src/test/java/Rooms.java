import java.io.IOException;
import java.nio.file.Files;
import java.nio.file.Path;
import java.util.Comparator;
import java.util.List;
import java.util.stream.Stream;

/** Directories that a test makes for a while. */
final class Rooms {
    private Rooms() {
    }

    static void deleteAll(Path room) throws IOException {
        List<Path> deepestFirst;
        try (Stream<Path> files = Files.walk(room)) {
            deepestFirst = files.sorted(Comparator.reverseOrder()).toList();
        }
        for (Path file : deepestFirst) {
            Files.delete(file);
        }
    }
}
