import java.io.IOException;
import java.io.UncheckedIOException;
import java.nio.charset.StandardCharsets;
import java.nio.file.Files;
import java.nio.file.Path;
import java.util.ArrayList;
import java.util.List;

/** The texts that the tests look things up in; .ci/run starts each test in the project's folder. */
final class Texts {
    static final String DOCUMENT = read("../shared/DOC.md");
    static final String README = read("README.md");

    private Texts() {
    }

    static String read(String path) {
        try {
            return Files.readString(Path.of(path), StandardCharsets.UTF_8);
        } catch (IOException e) {
            throw new UncheckedIOException(e);
        }
    }

    /** The lines of all blocks of a language, without the blanks around them. */
    static List<String> linesOfBlocks(String text, String language) {
        List<String> lines = new ArrayList<>();
        boolean inside = false;
        for (String line : text.split("\n")) {
            if (line.startsWith("```")) {
                inside = line.equals("```" + language);
            } else if (inside && !line.isBlank()) {
                lines.add(line.strip());
            }
        }
        return lines;
    }
}
