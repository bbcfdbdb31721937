import java.util.ArrayList;
import java.util.LinkedHashSet;
import java.util.List;
import java.util.Set;

/**
 * Tests of boundaries: each begins with the words of the document that it is about, and what is
 * refused is looked at for traces, also in what undo brings back.
 */
final class Bounds {
    static final int INVALID = ExampleDrawers.INVALID_ARGUMENT;
    static final int IMPOSSIBLE = ExampleDrawers.NOT_POSSIBLE;
    static final int LIMIT = ExampleDrawers.LIMIT_REACHED;
    static final int MISSING = ExampleDrawers.NOT_FOUND;

    /** Brings a new object into a state; it always makes the same calls. */
    interface Scene {
        void on(ExampleDrawers x);
    }

    interface Call {
        int on(ExampleDrawers x);
    }

    interface CallWith {
        int on(ExampleDrawers x, int number);
    }

    private final Due due;
    private final Sentences sentences;

    Bounds(Due due, Sentences sentences) {
        this.due = due;
        this.sentences = sentences;
    }

    /** Tells which words of the document the answers that follow belong to. */
    void says(String chapter, String words) {
        due.part(chapter + ": \"" + words + "\"");
        due.holds("that the document says so", sentences.test(chapter, words));
    }

    void is(String call, long got, long want) {
        due.is(call, got, want);
    }

    void holds(String what, boolean is) {
        due.holds(what, is);
    }

    static ExampleDrawers after(Scene scene) {
        ExampleDrawers x = new ExampleDrawers();
        scene.on(x);
        return x;
    }

    static void write(ExampleDrawers x, String text) {
        for (int i = 0; i < text.length(); i++) {
            x.type(text.charAt(i));
        }
    }

    /** A call that answers with an error, and after which all is as if it had not been made. */
    void refused(String name, int error, Scene scene, Call call) {
        ExampleDrawers without = after(scene);
        int states = without.count(7);
        for (int undone = 0; undone <= states; undone++) {
            without = after(scene);
            ExampleDrawers with = after(scene);
            is(name, call.on(with), error);
            for (int i = 0; i < undone; i++) {
                is("undo() after " + name, with.undo(), without.undo());
            }
            is("states after " + name, with.count(7), states - undone);
            same(name + ", then " + undone + " times undo()", with, without);
        }
    }

    /** A call that keeps one state more, and is taken back by one undo. */
    void change(String name, int answer, Scene scene, Call call) {
        ExampleDrawers without = after(scene);
        int states = without.count(7);
        // The oldest of four states is not there any more behind a fifth one.
        for (int undone = 0; undone <= Math.min(states, 3); undone++) {
            without = after(scene);
            ExampleDrawers with = after(scene);
            is(name, call.on(with), answer);
            is("states after " + name, with.count(7), Math.min(states + 1, 4));
            is("undo() of " + name, with.undo(), Math.min(states, 3));
            for (int i = 0; i < undone; i++) {
                with.undo();
                without.undo();
            }
            same(name + ", taken back, then " + undone + " times undo()", with, without);
        }
    }

    /** An answer that is no change: no state is kept for it, and all stays. */
    void noChange(String name, int answer, Scene scene, Call call) {
        refused(name, answer, scene, call);
    }

    /** An argument that is taken from least to greatest, and refused everywhere else. */
    void range(String name, Scene scene, CallWith call, int least, int greatest) {
        for (int number = least; number <= greatest; number++) {
            int got = call.on(after(scene), number);
            holds(named(name, number) + " is not refused, it answered " + got, got != INVALID);
        }
        for (int number : outside(least, greatest)) {
            refused(named(name, number), INVALID, scene, x -> call.on(x, number));
        }
    }

    /** An argument that is taken where it is one of some numbers, and refused everywhere else. */
    void amid(String name, Scene scene, CallWith call, int... taken) {
        Set<Integer> inside = new LinkedHashSet<>();
        for (int number : taken) {
            inside.add(number);
            int got = call.on(after(scene), number);
            holds(named(name, number) + " is not refused, it answered " + got, got != INVALID);
        }
        Set<Integer> all = outside(taken[0], taken[taken.length - 1]);
        for (int number = taken[0]; number <= taken[taken.length - 1]; number++) {
            all.add(number);
        }
        all.removeAll(inside);
        for (int number : all) {
            refused(named(name, number), INVALID, scene, x -> call.on(x, number));
        }
    }

    /** The name of a call with the number in place of its "_". */
    private static String named(String name, int number) {
        return name.replace("_", Integer.toString(number));
    }

    /** The next numbers on each side, the ends of all numbers, and those alike in their low bits. */
    static Set<Integer> outside(int least, int greatest) {
        Set<Integer> all = new LinkedHashSet<>(List.of(least - 1, least - 2, greatest + 1,
                greatest + 2, Integer.MIN_VALUE, Integer.MIN_VALUE + 1, Integer.MAX_VALUE - 1,
                Integer.MAX_VALUE));
        for (int bit = 5; bit < 32; bit++) {
            all.add(least + (1 << bit));
            all.add(greatest - (1 << bit));
        }
        all.removeIf(number -> number >= least && number <= greatest);
        return all;
    }

    private void same(String name, ExampleDrawers x, ExampleDrawers other) {
        List<Integer> got = everything(x);
        List<Integer> want = everything(other);
        is(name + ": how many answers there are", got.size(), want.size());
        for (int i = 0; i < Math.min(got.size(), want.size()); i++) {
            is(name + ": answer " + i, got.get(i), want.get(i));
        }
    }

    /** All that can be asked, but for the history; at last the text is read as an example. */
    static List<Integer> everything(ExampleDrawers x) {
        List<Integer> all = new ArrayList<>();
        for (int what = 0; what < 14; what++) {
            all.add(what == 7 ? 0 : x.count(what));
        }
        for (int drawer = 0; drawer < 2; drawer++) {
            for (int column = 0; column < x.count(2 + drawer); column++) {
                for (int what = 0; what < 4; what++) {
                    all.add(x.cellOf(drawer, column, what));
                }
                for (int card = 0; card < x.count(drawer); card++) {
                    all.add(x.valueOf(drawer, card, column));
                }
            }
        }
        int many = x.many();
        all.add(many);
        for (int index = 0; index < Math.min(many, 20); index++) {
            all.add(x.row(index, 0));
            all.add(x.row(index, 1));
        }
        all.addAll(List.of(x.unlike(), x.cards(0), x.cards(1), x.tightest(0), x.tightest(1)));
        all.addAll(List.of(x.fault(0), x.fault(1)));
        x.columns(0, 4);
        all.add(x.read(0));
        for (int column = 0; column < 4; column++) {
            for (int what = 0; what < 3; what++) {
                all.add(x.cellOf(0, column, what));
            }
        }
        return all;
    }
}
