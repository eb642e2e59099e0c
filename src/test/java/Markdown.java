import java.io.IOException;
import java.io.UncheckedIOException;
import java.nio.file.Files;
import java.nio.file.Path;
import java.util.ArrayList;
import java.util.List;

/** The lines of a text such as ../shared/DOC.md, and the blocks in it that are set between fences. */
final class Markdown {
    static final Path DOCUMENT = Path.of("../shared/DOC.md");

    private static final String FENCE = "```";

    private Markdown() {
    }

    static List<String> lines(Path text) {
        try {
            return Files.readAllLines(text);
        } catch (IOException e) {
            throw new UncheckedIOException(e);
        }
    }

    /** The lines of each block of this language, in their order. */
    static List<List<String>> blocks(Path text, String language) {
        List<List<String>> blocks = new ArrayList<>();
        List<String> block = null;
        for (String line : lines(text)) {
            if (!line.startsWith(FENCE)) {
                if (block != null) {
                    block.add(line);
                }
            } else if (block == null) {
                block = new ArrayList<>();
                if (line.equals(FENCE + language)) {
                    blocks.add(block);
                }
            } else {
                block = null;
            }
        }
        return blocks;
    }
}
