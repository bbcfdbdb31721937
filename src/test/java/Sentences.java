import java.io.IOException;
import java.nio.file.Files;
import java.nio.file.Path;
import java.util.ArrayList;
import java.util.LinkedHashMap;
import java.util.List;
import java.util.Map;

/**
 * The sentences of ../shared/DOC.md by their chapters, cut at each ";" that is not in brackets, so
 * that every part that promises something by itself can be asked for a test of its own.
 */
final class Sentences {
    private static final Path DOCUMENT = Path.of("../shared/DOC.md");

    private final Map<String, List<String>> chapters = new LinkedHashMap<>();
    private final Map<String, List<String>> tested = new LinkedHashMap<>();

    Sentences() throws IOException {
        String chapter = "";
        for (String line : Files.readAllLines(DOCUMENT)) {
            if (line.startsWith("#")) {
                chapter = line.replaceFirst("#+ *", "").replaceFirst("(Promise \\d+): .*", "$1");
                chapters.put(chapter, new ArrayList<>());
                tested.put(chapter, new ArrayList<>());
            } else if (!line.isBlank() && !chapter.isEmpty()) {
                cut(line.replaceFirst("^- ", ""), chapters.get(chapter));
            }
        }
    }

    /** Cuts a line behind each "." or ";" ahead of a space, but for those in brackets. */
    private static void cut(String line, List<String> parts) {
        int depth = 0;
        int start = 0;
        for (int i = 0; i < line.length(); i++) {
            char sign = line.charAt(i);
            depth += sign == '(' ? 1 : sign == ')' ? -1 : 0;
            boolean ends = i + 1 == line.length() || line.charAt(i + 1) == ' ';
            if ((sign == '.' || sign == ';') && ends && depth == 0) {
                parts.add(line.substring(start, i).trim());
                start = i + 1;
            }
        }
        if (!line.substring(start).isBlank()) {
            parts.add(line.substring(start).trim());
        }
    }

    /** Whether a chapter says these words; they are noted as tested. */
    boolean test(String chapter, String words) {
        boolean said = false;
        for (String part : chapters.getOrDefault(chapter, List.of())) {
            said |= part.contains(words);
        }
        if (said) {
            tested.get(chapter).add(words);
        }
        return said;
    }

    /** The parts of a chapter that no test has quoted words of. */
    List<String> untested(String chapter) {
        List<String> left = new ArrayList<>();
        for (String part : chapters.getOrDefault(chapter, List.of())) {
            if (tested.get(chapter).stream().noneMatch(part::contains)) {
                left.add(part);
            }
        }
        return left;
    }

    Iterable<String> chapters() {
        return chapters.keySet();
    }
}
