import java.io.IOException;
import java.nio.file.Files;
import java.nio.file.Path;
import java.util.List;
import java.util.Set;
import java.util.TreeSet;
import java.util.regex.Matcher;
import java.util.regex.Pattern;
import java.util.stream.Collectors;
import java.util.stream.Stream;

/**
 * The runs under src/test/stories, each on one object. Their answers were found from the document
 * by hand, neither with the program nor with the model.
 *
 * <p>A story is made of calls with their answers, such as {@code many() = 3}; {@code type "5-9" = 3}
 * types each character and tells the length at last. What stands behind a "#" is for the reader.
 */
public final class StoriesTest {
    private static final Path STORIES = Path.of("src/test/stories");
    private static final Pattern STEP = Pattern.compile(
            "\\s*(?:" + Calls.WRITTEN + "|type \"([^\"]*)\") = (-?\\d+)");
    private static final Due DUE = new Due("StoriesTest");
    private static final Set<String> CALLED = new TreeSet<>();

    public static void main(String[] args) throws IOException {
        List<Path> stories;
        try (Stream<Path> files = Files.list(STORIES)) {
            stories = files.sorted().collect(Collectors.toList());
        }
        for (Path story : stories) {
            tell(story);
        }
        DUE.part("all stories");
        DUE.is("methods of the face that are called", CALLED.size(), 24);
        DUE.end();
    }

    private static void tell(Path story) throws IOException {
        ExampleDrawers x = new ExampleDrawers();
        int made = 0;
        int line = 0;
        for (String text : Files.readAllLines(story)) {
            line++;
            DUE.part(story.getFileName() + ", line " + line);
            made += steps(x, text.startsWith("#") ? "" : text);
        }
        DUE.holds("that the document promises so many calls: " + made, made <= 512);
    }

    /** Makes the calls of a line, and tells how many. */
    private static int steps(ExampleDrawers x, String line) {
        Matcher matcher = STEP.matcher(line);
        int made = 0;
        int read = 0;
        while (matcher.lookingAt()) {
            int due = Integer.parseInt(matcher.group(4));
            if (matcher.group(3) == null) {
                CALLED.add(matcher.group(1));
                int[] arguments = Calls.arguments(matcher.group(2));
                DUE.is(matcher.group().trim(), Calls.make(x, matcher.group(1), arguments), due);
                made++;
            } else {
                type(x, matcher.group(3), due);
                made += matcher.group(3).length();
            }
            read = matcher.end();
            matcher.region(read, line.length());
        }
        DUE.holds("that this is a call with an answer: " + line.substring(read),
                line.substring(read).isBlank());
        return made;
    }

    private static void type(ExampleDrawers x, String text, int due) {
        int length = due - text.length();
        for (char character : text.toCharArray()) {
            length++;
            DUE.is("type('" + character + "')", x.type(character), length);
        }
    }
}
