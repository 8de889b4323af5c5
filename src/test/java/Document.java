import java.io.IOException;
import java.nio.file.Files;
import java.nio.file.Path;
import java.util.ArrayList;
import java.util.List;

/** ../shared/DOC.md by its parts: the Terms (part 0), and promise by promise (parts 1 to 32). */
final class Document {
    static final int PROMISES = 32;
    private static final Path FILE = Path.of("../shared/DOC.md");
    private static final int NO_PART = -1;

    private final List<List<String>> parts = new ArrayList<>();

    Document() {
        for (int part = 0; part <= PROMISES; part++) {
            parts.add(new ArrayList<>());
        }
        int part = NO_PART;
        for (String line : lines()) {
            if (line.startsWith("## ")) {
                part = partOf(line);
            } else if (part != NO_PART && !line.isBlank()) {
                parts.get(part).addAll(part == 0 ? clauses(line) : List.of(withoutSignature(line)));
            }
        }
    }

    private static List<String> lines() {
        try {
            return Files.readAllLines(FILE);
        } catch (IOException e) {
            throw new AssertionError(e);
        }
    }

    private static int partOf(String heading) {
        if (heading.equals("## Terms")) {
            return 0;
        }
        boolean isPromise = heading.startsWith("## Promise ");
        return isPromise ? Integer.parseInt(heading.replaceAll("## Promise (\\d+):.*", "$1")) : NO_PART;
    }

    /** A line's sentences, and what semicolons part in them; headings have no full stop. */
    private static List<String> clauses(String line) {
        boolean isHeading = line.startsWith("#") || !line.endsWith(".");
        return isHeading || line.startsWith("Ahead of the calls") ? List.of() : List.of(line.split("(?<=[.;]) "));
    }

    private static String withoutSignature(String line) {
        return line.replaceFirst("^`.*?`: ", "");
    }

    /** What a test has to hold: clauses of the Terms, or lines of a promise. */
    List<String> part(int part) {
        return parts.get(part);
    }

    /** How often these words stand in the Terms and in this promise. */
    int count(String words, int promise) {
        int count = 0;
        for (int part : new int[] {0, promise}) {
            String text = String.join(" ", parts.get(part));
            for (int at = text.indexOf(words); at >= 0; at = text.indexOf(words, at + 1)) {
                count++;
            }
        }
        return count;
    }
}
