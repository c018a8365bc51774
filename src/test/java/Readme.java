import java.io.IOException;
import java.nio.file.Files;
import java.nio.file.Path;
import java.util.ArrayList;
import java.util.List;
import java.util.regex.Matcher;
import java.util.regex.Pattern;

/** The text of README.md and its pieces of code. */
final class Readme {
    private static final String FENCE = "```";

    private Readme() {
    }

    static List<String> lines() throws IOException {
        return Files.readAllLines(Path.of("README.md"));
    }

    /** The pieces of code that are marked with that language, the lines of each. */
    static List<List<String>> pieces(String language) throws IOException {
        List<List<String>> found = new ArrayList<>();
        List<String> piece = null;
        boolean inside = false;
        for (String line : lines()) {
            if (line.startsWith(FENCE)) {
                inside = !inside;
                piece = inside && line.equals(FENCE + language) ? new ArrayList<>() : null;
                if (piece != null) {
                    found.add(piece);
                }
            } else if (piece != null) {
                piece.add(line);
            }
        }
        return found;
    }

    /** The first group of each place where the pattern is found outside of the pieces of code. */
    static List<String> told(String pattern) throws IOException {
        List<String> found = new ArrayList<>();
        boolean inside = false;
        for (String line : lines()) {
            inside ^= line.startsWith(FENCE);
            Matcher matcher = Pattern.compile(pattern).matcher(line);
            while (!inside && matcher.find()) {
                found.add(matcher.group(1));
            }
        }
        return found;
    }
}
