import java.util.HashMap;
import java.util.Map;
import java.util.Set;
import java.util.TreeSet;

/** An object of the program and a model of it: each call is made on both, and compared. */
final class Twin {
    /** Behind so many calls of one object the document promises nothing. */
    private static final int MOST_CALLS = 512;

    private final Due due;
    private final ExampleDrawers program = new ExampleDrawers();
    private final Model model = new Model();
    private final Map<String, Set<Integer>> met = new HashMap<>();
    private int made = 0;
    private boolean wrong = false;

    Twin(Due due) {
        this.due = due;
    }

    /** Whether no more calls can be made; behind a wrong answer others would tell nothing. */
    boolean isOver() {
        return wrong || made == MOST_CALLS;
    }

    boolean isWrong() {
        return wrong;
    }

    /** Makes a call on both and compares; answers with what is due. */
    int call(String name, int... arguments) {
        int want = Calls.make(model, name, arguments);
        if (!isOver()) {
            made++;
            int got = Calls.make(program, name, arguments);
            wrong = got != want;
            due.is(wrong ? "call " + made + ", " + Calls.text(name, arguments) : name, got, want);
            met.computeIfAbsent(name, each -> new TreeSet<>()).add(got);
        }
        return want;
    }

    /** The answers that the calls of a name gave. */
    Set<Integer> met(String name) {
        return met.getOrDefault(name, Set.of());
    }

    /** What is due for a call that changes nothing, without making it. */
    int due(String name, int... arguments) {
        return Calls.make(model, name, arguments);
    }
}
