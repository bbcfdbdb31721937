import java.io.IOException;
import java.util.List;

/**
 * Each sentence of the document has a test of its own, which quotes it; a sentence that no test
 * quotes is told as a fault. A boundary in it is tried on both sides, and what is refused must
 * leave no trace.
 */
public final class BoundariesTest {
    /** Chapters that promise nothing to an ordinary call; FaceTest looks at the public face. */
    private static final List<String> OTHERS = List.of("ExampleDrawers", "The public face",
            "Not promised");

    public static void main(String[] args) throws IOException {
        Due due = new Due("BoundariesTest");
        Sentences sentences = new Sentences();
        Bounds bounds = new Bounds(due, sentences);
        new BoundsOfDrawers(bounds).all();
        new BoundsOfQuestion(bounds).all();
        new BoundsOfAnswers(bounds).all();
        new BoundsOfTexts(bounds).all();
        new BoundsOfChanges(bounds).all();
        due.part("sentences without a test");
        for (String chapter : sentences.chapters()) {
            if (!OTHERS.contains(chapter)) {
                for (String sentence : sentences.untested(chapter)) {
                    due.holds("a test for " + chapter + ", \"" + sentence + "\"", false);
                }
            }
        }
        due.end();
    }
}
