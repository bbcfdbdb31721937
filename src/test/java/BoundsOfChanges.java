import java.io.IOException;
import java.nio.file.Files;
import java.nio.file.Path;

/** "What it is", and "Changes and errors". */
final class BoundsOfChanges {
    private static final int INVALID = Bounds.INVALID;
    private static final int IMPOSSIBLE = Bounds.IMPOSSIBLE;
    private static final int LIMIT = Bounds.LIMIT;
    private static final int MISSING = Bounds.MISSING;
    private static final Path PROGRAM = Path.of("src/main/java/ExampleDrawers.java");
    private static final int CALLS = 512;

    private final Bounds b;

    BoundsOfChanges(Bounds bounds) {
        b = bounds;
    }

    void all() throws IOException {
        allOfIt();
        manyCalls();
        laterCalls();
        changes();
        noChanges();
        history();
        whatIsRecorded();
        severalErrors();
        errorsChangeNothing();
        constants();
        headings();
    }

    // ---- "What it is"

    private void allOfIt() {
        b.says("What it is", "Record cards that are asked for by example: two drawers of cards "
                + "with columns, blanks, an example row for each drawer with cells of many kinds, "
                + "letters that stand for alike values, cards and pairs of cards that fit");
        ExampleDrawers x = Bounds.after(Scenes::asked);
        int[][] due = {{0, 0, -1, 7}, {1, 0, 8, 7}, {2, 0, 8, 7}};
        for (int index = 0; index < 3; index++) {
            b.is("row(" + index + ", 0)", x.row(index, 0), due[index][0]);
            b.is("row(" + index + ", 1)", x.row(index, 1), due[index][1]);
            b.is("row(" + index + ", 11)", x.row(index, 11), due[index][2]);
            b.is("row(" + index + ", 17)", x.row(index, 17), due[index][3]);
        }
        b.says("What it is", "orders by columns, columns that are shown and rows that are alike, "
                + "sums and counts, why a card is not shown, which cell holds back most, how many "
                + "fit each cell, examples as texts with places and reasons of faults, and undo");
        b.is("order(0, 0, 1)", x.order(0, 0, 1), 3);
        b.is("row(0, 10)", x.row(0, 10), 6);
        b.is("show(2)", x.show(2), 2);
        b.is("total(0, 1)", x.total(0, 1), 16);
        b.is("why(2, 1)", x.why(2, 1), 4);
        b.is("tightest(0)", x.tightest(0), 4);
        b.is("cellOf(1, 3, 3)", x.cellOf(1, 3, 3), 2);
        b.is("fault(0)", x.fault(0), MISSING);
        b.is("read(1)", x.read(1), 0);
        b.is("undo()", x.undo(), 3);
        b.is("many()", x.many(), 3);
    }

    private void manyCalls() {
        b.says("What it is", "An object is used for at most 512 calls after it has been made");
        ExampleDrawers x = new ExampleDrawers();
        for (int call = 0; call < CALLS - 5; call++) {
            b.is("both", x.both(1 - call % 2), call % 2);
        }
        b.is("undo() as the 508th call", x.undo(), 3);
        b.is("undo() as the 509th call", x.undo(), 2);
        b.is("undo() as the 510th call", x.undo(), 1);
        b.is("undo() as the 511th call", x.undo(), 0);
        b.is("count(4) as the 512th call", x.count(4), 1);
        x = new ExampleDrawers();
        for (int call = 0; call < CALLS / 2; call++) {
            b.is("card", x.card(1, call % 100, 1, 1, 1), 0);
            b.is("drop", x.drop(1, 0), 0);
        }
        x = new ExampleDrawers();
        for (int call = 1; call < CALLS; call++) {
            b.is("type", x.type(42), call > 60 ? LIMIT : call);
        }
        b.is("clearText() as the 512th call", x.clearText(), 60);
        x = Bounds.after(Scenes::full);
        for (int call = 28; call < CALLS; call++) {
            b.is("tightest(0)", x.tightest(0), MISSING);
        }
    }

    private void laterCalls() {
        b.says("What it is", "what later calls answer is free");
        ExampleDrawers x = new ExampleDrawers();
        // They may answer anything, but must come to an end and must not throw.
        for (int round = 0; round < CALLS; round++) {
            Scenes.asked(x);
            Scenes.full(x);
            x.undo();
            x.read(round % 2);
        }
        b.is("an object that is made then", new ExampleDrawers().count(7), 0);
    }

    // ---- "Changes and errors"

    private void changes() {
        b.says("Changes and errors", "The changes are the calls of columns, card, put, drop, cell, "
                + "clear, both, order, show and read that return no error");
        b.change("columns", 1, Scenes::few, x -> x.columns(1, 3));
        b.change("card", 2, Scenes::few, x -> x.card(0, 5, 8, 0, 0));
        b.change("put", 8, Scenes::few, x -> x.put(0, 1, 1, 7));
        b.change("drop", 0, Scenes::few, x -> x.drop(1, 0));
        b.change("cell", 0, Scenes::few, x -> x.cell(1, 2, 10, 3, 0));
        b.change("clear", 2, Scenes::asked, x -> x.clear(1));
        b.change("both", 0, Scenes::few, x -> x.both(1));
        b.change("order", 2, Scenes::few, x -> x.order(0, 1, 1));
        b.change("show", 1, Scenes::few, x -> x.show(1));
        b.change("read", 0, x -> {
            Scenes.few(x);
            Bounds.write(x, "1,2,3");
        }, x -> x.read(0));
        changesOfNothing();
    }

    /** A call that returns no error is a change also where all is as before. */
    private void changesOfNothing() {
        b.change("columns of no cards", 0, Scenes::untouched, x -> x.columns(0, 3));
        b.change("put of a blank for a blank", -1, Scenes::few, x -> x.put(0, 0, 1, -1));
        b.change("put of the same value", 5, Scenes::few, x -> x.put(0, 0, 0, 5));
        b.change("cell that is the same", 7, Scenes::asked, x -> x.cell(1, 3, 7, 7, 99));
        b.change("clear of no cells", 0, Scenes::few, x -> x.clear(0));
        b.change("both that is the same", 0, Scenes::untouched, x -> x.both(0));
        b.change("order of none", 0, Scenes::untouched, x -> x.order(1, -1, 0));
        b.change("show of the same", 3, Scenes::asked, x -> x.show(0b10011));
        b.change("read of the same", 2, x -> {
            Scenes.few(x);
            x.type('*');
        }, x -> x.read(1));
    }

    private void noChanges() {
        for (int states = 0; states <= 4; states++) {
            int kept = states;
            Bounds.Scene scene = x -> {
                Bounds.write(x, "*,5-4");
                for (int change = 0; change < kept; change++) {
                    x.card(0, change, 2, 3, 4);
                }
            };
            int first = states == 0 ? MISSING : 0;
            b.noChange("valueOf", states == 0 ? INVALID : 0, scene, x -> x.valueOf(0, 0, 0));
            b.noChange("cellOf", states, scene, x -> x.cellOf(0, 0, 3));
            b.noChange("many", states, scene, ExampleDrawers::many);
            b.noChange("row", first, scene, x -> x.row(0, 0));
            b.noChange("total", states, scene, x -> x.total(0, 0));
            b.noChange("unlike", states, scene, ExampleDrawers::unlike);
            b.noChange("cards", (1 << states) - 1, scene, x -> x.cards(0));
            b.noChange("why", states == 0 ? INVALID : MISSING, scene, x -> x.why(0, 0));
            b.noChange("tightest", MISSING, scene, x -> x.tightest(0));
            b.noChange("count", states, scene, x -> x.count(7));
            b.noChange("fault", 2, scene, x -> x.fault(0));
            ExampleDrawers x = Bounds.after(scene);
            x.type(42);
            x.clearText();
            b.is("states after type and clearText", x.count(7), states);
        }
    }

    private void history() {
        b.says("Changes and errors", "A history of at most 4 states is kept");
        for (int changes = 0; changes <= 10; changes++) {
            ExampleDrawers x = new ExampleDrawers();
            for (int change = 0; change < changes; change++) {
                x.show(change + 1);
            }
            b.is("count(7) after changes " + changes, x.count(7), Math.min(changes, 4));
        }
        b.says("Changes and errors", "and if there are 5 states then, the oldest one is dropped");
        for (int changes = 0; changes <= 10; changes++) {
            ExampleDrawers x = new ExampleDrawers();
            for (int change = 0; change < changes; change++) {
                x.show(change + 1);
            }
            int kept = Math.min(changes, 4);
            for (int undone = 1; undone <= kept; undone++) {
                b.is("undo()", x.undo(), kept - undone);
                b.is("the set then", x.count(6), undone == changes ? 255 : changes - undone);
            }
            b.is("undo() once more", x.undo(), IMPOSSIBLE);
            b.is("the set stays", x.count(6), changes == 0 || kept == changes ? 255 : changes - 4);
        }
        roomAfterUndo();
    }

    private void roomAfterUndo() {
        ExampleDrawers x = new ExampleDrawers();
        for (int set = 1; set <= 5; set++) {
            x.show(set);
        }
        x.undo();
        x.show(20);
        b.is("four states again", x.count(7), 4);
        int[] due = {4, 3, 2, 1};
        for (int set : due) {
            x.undo();
            b.is("the set then", x.count(6), set);
        }
        b.is("no state ahead of these", x.undo(), IMPOSSIBLE);
    }

    private void whatIsRecorded() {
        b.says("Changes and errors", "each change records everything before it but the text");
        b.change("a change of a full object", 12, x -> {
            Scenes.full(x);
            x.cell(0, 1, 7, 9, 20);
            x.cell(1, 3, 8, 3, 0);
            x.order(0, 7, 1);
            x.order(1, -1, 1);
            x.show(0b10000001);
        }, x -> x.columns(1, 1));
        ExampleDrawers x = Bounds.after(Scenes::few);
        x.type('5');
        x.show(1);
        x.type('6');
        x.show(2);
        x.clearText();
        x.type('7');
        b.is("undo()", x.undo(), 3);
        b.is("undo()", x.undo(), 2);
        b.is("the text has its length", x.count(8), 1);
        x.read(0);
        b.is("the text is 7", x.cellOf(0, 0, 1), 7);
    }

    private void severalErrors() {
        b.says("Changes and errors", "INVALID_ARGUMENT is returned rather than NOT_POSSIBLE");
        b.refused("cards(2), the drawer 1 is not asked", INVALID, Scenes::few, x -> x.cards(2));
        b.refused("read(2) of the empty text", INVALID, Scenes::few, x -> x.read(2));
        b.refused("read(-1) of three cells in two columns", INVALID, x -> {
            Scenes.full(x);
            x.columns(0, 2);
            Bounds.write(x, "1,2,3");
        }, x -> x.read(-1));
        // No call can answer both with NOT_POSSIBLE and with LIMIT_REACHED or NOT_FOUND, nor both
        // with LIMIT_REACHED and with NOT_FOUND; INVALID_ARGUMENT goes ahead of each of them.
        b.says("Changes and errors", "NOT_POSSIBLE rather than LIMIT_REACHED");
        b.refused("card(0, 100, ..) of a full drawer", INVALID, Scenes::full,
                x -> x.card(0, 100, 1, 1, 1));
        b.refused("card(1, .., -2) of a full drawer", INVALID, Scenes::full,
                x -> x.card(1, 1, 1, 1, -2));
        b.refused("card(2, ..) of full drawers", INVALID, Scenes::full,
                x -> x.card(2, 1, 1, 1, 1));
        b.refused("type(31) of a full text", INVALID, x -> Bounds.write(x, "*".repeat(60)),
                x -> x.type(31));
        b.says("Changes and errors", "and LIMIT_REACHED rather than NOT_FOUND");
        b.refused("row(0, 2) of no rows", INVALID, Scenes::untouched, x -> x.row(0, 2));
        b.refused("row(144, 24) of 144", INVALID, Scenes::full, x -> x.row(144, 24));
        b.refused("row(-1, 20)", INVALID, Scenes::full, x -> x.row(-1, 20));
        b.refused("total(4, 5), not asked", INVALID, Scenes::few, x -> x.total(4, 5));
        b.refused("total(8, 2) of no values", INVALID, Scenes::untouched, x -> x.total(8, 2));
        b.refused("total(0, -1) of no values", INVALID, Scenes::untouched, x -> x.total(0, -1));
        b.refused("why(0, 1), the row would fit", INVALID, Scenes::few, x -> x.why(0, 1));
        b.refused("tightest(2), no cell", INVALID, Scenes::few, x -> x.tightest(2));
        b.refused("fault(2), no fault", INVALID, Scenes::asked, x -> x.fault(2));
    }

    private void errorsChangeNothing() {
        b.says("Changes and errors", "A call that returns an error changes nothing");
        b.refused("columns", INVALID, Scenes::asked, x -> x.columns(0, 5));
        b.refused("card", INVALID, Scenes::asked, x -> x.card(0, 1, 1, 1, 100));
        b.refused("card", LIMIT, Scenes::full, x -> x.card(0, 1, 1, 1, 1));
        b.refused("put", INVALID, Scenes::asked, x -> x.put(0, 0, 0, 100));
        b.refused("drop", INVALID, Scenes::asked, x -> x.drop(0, 3));
        b.refused("valueOf", INVALID, Scenes::asked, x -> x.valueOf(0, 3, 0));
        b.refused("cell", INVALID, Scenes::asked, x -> x.cell(0, 0, 7, 5, 4));
        b.refused("clear", INVALID, Scenes::asked, x -> x.clear(2));
        b.refused("both", INVALID, Scenes::asked, x -> x.both(2));
        b.refused("order", INVALID, Scenes::asked, x -> x.order(0, 0, 2));
        b.refused("show", INVALID, Scenes::asked, x -> x.show(256));
        b.refused("cellOf", INVALID, Scenes::asked, x -> x.cellOf(0, 0, 4));
        b.refused("row", INVALID, Scenes::asked, x -> x.row(0, 24));
        b.refused("row", MISSING, Scenes::asked, x -> x.row(3, 0));
        b.refused("total", INVALID, Scenes::asked, x -> x.total(0, 5));
        b.refused("total", MISSING, Scenes::asked, x -> x.total(3, 0));
        b.refused("cards", INVALID, Scenes::asked, x -> x.cards(2));
        b.refused("cards", IMPOSSIBLE, Scenes::few, x -> x.cards(1));
        b.refused("why", INVALID, Scenes::asked, x -> x.why(3, 0));
        b.refused("why", MISSING, Scenes::asked, x -> x.why(0, 0));
        b.refused("tightest", INVALID, Scenes::asked, x -> x.tightest(2));
        b.refused("tightest", MISSING, Scenes::full, x -> x.tightest(0));
        b.refused("count", INVALID, Scenes::asked, x -> x.count(9));
        b.refused("undo", IMPOSSIBLE, Scenes::untouched, ExampleDrawers::undo);
        b.refused("type", INVALID, Scenes::asked, x -> x.type(127));
        b.refused("type", LIMIT, x -> Bounds.write(x, "*".repeat(60)), x -> x.type(126));
        b.refused("fault", INVALID, Scenes::asked, x -> x.fault(2));
        b.refused("fault", MISSING, Scenes::asked, x -> x.fault(0));
        b.refused("read", INVALID, Scenes::asked, x -> x.read(2));
        b.refused("read", IMPOSSIBLE, Scenes::asked, x -> x.read(0));
    }

    private void constants() {
        b.says("Changes and errors", "`INVALID_ARGUMENT = -11`: An argument is out of its range");
        b.is("INVALID_ARGUMENT", ExampleDrawers.INVALID_ARGUMENT, -11);
        b.is("clear(2)", new ExampleDrawers().clear(2), -11);
        b.says("Changes and errors", "or there is no such card or column");
        b.is("drop(0, 0)", new ExampleDrawers().drop(0, 0), -11);
        b.is("cellOf(0, 3, 0)", new ExampleDrawers().cellOf(0, 3, 0), -11);
        b.says("Changes and errors", "`NOT_POSSIBLE = -12`: The call is not possible in the "
                + "present state");
        b.is("NOT_POSSIBLE", ExampleDrawers.NOT_POSSIBLE, -12);
        b.is("undo()", new ExampleDrawers().undo(), -12);
        b.is("cards(1)", new ExampleDrawers().cards(1), -12);
        b.is("read(0)", new ExampleDrawers().read(0), -12);
        b.says("Changes and errors", "`LIMIT_REACHED = -13`: A fixed limit has been reached");
        b.is("LIMIT_REACHED", ExampleDrawers.LIMIT_REACHED, -13);
        b.is("card", Bounds.after(Scenes::full).card(1, 0, 0, 0, 0), -13);
        b.says("Changes and errors", "`NOT_FOUND = -14`: There is no such value");
        b.is("NOT_FOUND", ExampleDrawers.NOT_FOUND, -14);
        b.is("row(0, 0)", new ExampleDrawers().row(0, 0), -14);
        b.is("total(0, 2)", new ExampleDrawers().total(0, 2), -14);
        b.is("tightest(0)", new ExampleDrawers().tightest(0), -14);
    }

    private void headings() throws IOException {
        b.says("Changes and errors", "the interface says: ---- drawers and cards");
        heading("drawers and cards", "columns", "card", "put", "drop", "valueOf");
        b.says("Changes and errors", "the interface says: ---- the question");
        heading("the question", "cell", "clear", "both", "order", "show", "cellOf");
        b.says("Changes and errors", "the interface says: ---- answers");
        heading("answers", "many", "row", "total", "unlike", "cards", "why", "tightest", "count",
                "undo");
        b.says("Changes and errors", "the interface says: ---- texts");
        heading("texts", "type", "clearText", "fault", "read");
    }

    /** The calls stand behind their heading, in their order, and ahead of the next one. */
    private void heading(String words, String... calls) throws IOException {
        String source = Files.readString(PROGRAM);
        int place = source.indexOf("// ---- " + words + "\n");
        b.holds("the heading is there", place >= 0);
        int end = source.indexOf("// ---- ", place + 1);
        for (String call : calls) {
            int next = source.indexOf("public int " + call + "(");
            b.holds(call + " stands behind " + words, next > place && next < end);
            place = next;
        }
    }
}
