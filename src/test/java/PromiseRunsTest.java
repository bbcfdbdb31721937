import java.util.ArrayList;
import java.util.List;
import java.util.Set;
import java.util.TreeSet;

/**
 * Each promise by itself in long runs: calls of all kinds, refused ones, undo and texts among them,
 * and between them the promise's own call, whose answer depends on those before it. A promise
 * tells which answers its runs must meet, so that no edge of it stays away unseen.
 */
public final class PromiseRunsTest {
    private static final int INVALID = ExampleDrawers.INVALID_ARGUMENT;
    private static final int IMPOSSIBLE = ExampleDrawers.NOT_POSSIBLE;
    private static final int LIMIT = ExampleDrawers.LIMIT_REACHED;
    private static final int MISSING = ExampleDrawers.NOT_FOUND;

    private static final int RUNS = 60;
    private static final Due DUE = new Due("PromiseRunsTest");

    public static void main(String[] args) {
        newObject();
        promise(2, "columns", upTo(12, INVALID));
        promise(3, "card", upTo(11, INVALID, LIMIT));
        promise(4, "put", upTo(6, INVALID, -1, 99));
        promise(5, "drop", upTo(11, INVALID));
        promise(6, "valueOf", upTo(6, INVALID, -1, 99));
        promise(7, "cell", upTo(10, INVALID));
        promise(8, "clear", upTo(4, INVALID));
        promise(9, "both", upTo(1, INVALID));
        promise(10, "order", upTo(12, INVALID));
        promise(11, "show", upTo(12, INVALID));
        promise(12, "cellOf", upTo(12, INVALID));
        promise(13, "many", upTo(12, 30, 144));
        promise(14, "row", upTo(11, INVALID, MISSING, -1, 99));
        promise(15, "total", upTo(12, INVALID, MISSING, 99));
        promise(16, "unlike", upTo(12));
        promise(17, "cards", upTo(8, INVALID, IMPOSSIBLE, 4095));
        promise(18, "why", upTo(7, INVALID, MISSING));
        promise(19, "tightest", upTo(7, INVALID, MISSING));
        promise(20, "count", upTo(12, INVALID, -1, 255));
        promise(21, "undo", upTo(3, IMPOSSIBLE));
        promise(22, "type", from(1, 60, INVALID, LIMIT));
        promise(23, "clearText", upTo(12, 60));
        promise(24, "fault", upTo(8, INVALID, MISSING));
        promise(25, "read", upTo(6, INVALID, IMPOSSIBLE));
        DUE.end();
    }

    private static Set<Integer> upTo(int last, int... others) {
        return from(0, last, others);
    }

    /** The answers from the first to the last one, and some more. */
    private static Set<Integer> from(int first, int last, int... others) {
        Set<Integer> all = new TreeSet<>();
        for (int other : others) {
            all.add(other);
        }
        for (int answer = first; answer <= last; answer++) {
            all.add(answer);
        }
        return all;
    }

    /** Objects that are used in turns: each one begins as a new one, and goes its own way. */
    private static void newObject() {
        for (int run = 0; run < RUNS; run++) {
            DUE.part("promise 1, run " + run);
            Chance chance = new Chance(run);
            List<Twin> twins = new ArrayList<>();
            List<RandomCalls> calls = new ArrayList<>();
            boolean wrong = false;
            for (int made = 0; made < 1500 && !wrong; made++) {
                if (made % 250 == 0) {
                    Twin added = new Twin(DUE);
                    asNew(added);
                    twins.add(added);
                    calls.add(new RandomCalls(added, chance));
                }
                int which = chance.below(twins.size());
                calls.get(which).any();
                wrong = twins.get(which).isWrong();
            }
        }
    }

    private static void asNew(Twin twin) {
        int[] due = {0, 0, 3, 3, 0, 0, 255, 0, 0, INVALID, -1, -1, 0, 0};
        for (int what = 0; what < due.length; what++) {
            DUE.is("due of count(" + what + ")", twin.call("count", what), due[what]);
        }
        DUE.is("due of undo()", twin.call("undo"), IMPOSSIBLE);
        DUE.is("due of many()", twin.call("many"), 0);
    }

    private static void promise(int number, String call, Set<Integer> must) {
        Set<Integer> missed = new TreeSet<>(must);
        boolean wrong = false;
        for (int run = 0; run < RUNS && !wrong; run++) {
            DUE.part("promise " + number + ", " + call + ", run " + run);
            Twin twin = run(call, run);
            missed.removeAll(twin.met(call));
            wrong = twin.isWrong();
        }
        DUE.part("promise " + number + ", " + call);
        DUE.holds("that the runs meet all answers that they must; missed: " + missed,
                wrong || missed.isEmpty());
    }

    private static Twin run(String call, int run) {
        Chance chance = new Chance(run);
        Twin twin = new Twin(DUE);
        RandomCalls calls = new RandomCalls(twin, chance);
        if (run % 5 == 3) {
            calls.fullDrawers();
        }
        if (run % 5 == 4) {
            calls.longText();
        }
        // In some runs the call is rare: states that it ends need time to grow.
        int rare = 1 + run % 4 * 5;
        while (!twin.isOver()) {
            calls.any();
            if (chance.below(rare) == 0) {
                calls.make(call);
            }
        }
        return twin;
    }
}
