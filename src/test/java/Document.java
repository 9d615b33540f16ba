import java.io.IOException;
import java.nio.file.Files;
import java.nio.file.Path;
import java.util.ArrayList;
import java.util.List;

/** The sentences of the document, each behind the headline of its section. */
final class Document {
    private static final Path FILE = Path.of("..", "shared", "DOC.md");
    // The face is tested by FaceTest, and what is not promised can't be.
    private static final List<String> LEFT_OUT = List.of("The public face", "Not promised");

    private Document() {
    }

    static boolean isThere() {
        return Files.exists(FILE);
    }

    static List<String> sentences() throws IOException {
        List<String> sentences = new ArrayList<>();
        String section = "";
        for (String line : Files.readAllLines(FILE)) {
            if (line.startsWith("#")) {
                section = line.replaceFirst("#+ ", "");
            } else if (!line.isBlank() && !LEFT_OUT.contains(section)) {
                for (String sentence : withoutSignature(line).split("(?<=[.)]) +(?=[A-Z(])")) {
                    sentences.add(named(section, sentence));
                }
            }
        }
        return sentences;
    }

    static String named(String section, String sentence) {
        return section + ", '" + sentence + "'";
    }

    private static String withoutSignature(String line) {
        return line.startsWith("- ") ? line.substring(2) : line.replaceFirst("^`[^`]*`: ", "");
    }
}
