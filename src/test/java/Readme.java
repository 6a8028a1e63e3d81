import java.io.IOException;
import java.nio.file.Files;
import java.nio.file.Path;
import java.util.ArrayList;
import java.util.List;

/** Takes README.md apart; tests run where it stands. */
final class Readme {
    private static final String FENCE = "```";

    private Readme() {
    }

    static List<String> lines() throws IOException {
        return Files.readAllLines(Path.of("README.md"));
    }

    /** The lines of each block of code that is marked as being of that kind. */
    static List<List<String>> blocks(String kind) throws IOException {
        List<List<String>> found = new ArrayList<>();
        List<String> block = null;
        for (String line : lines()) {
            if (line.equals(FENCE + kind)) {
                block = new ArrayList<>();
            } else if (line.equals(FENCE) && block != null) {
                found.add(block);
                block = null;
            } else if (block != null) {
                block.add(line);
            }
        }
        return found;
    }
}
