/** "Texts", and the promises 22 to 25. */
final class BoundsOfTexts {
    private static final int INVALID = Bounds.INVALID;
    private static final int IMPOSSIBLE = Bounds.IMPOSSIBLE;
    private static final int LIMIT = Bounds.LIMIT;
    private static final int MISSING = Bounds.MISSING;
    /** 59 characters, many cells; the fourth "," is at 11. */
    private static final String LONG = "*,1-22,<w,z" + ",*".repeat(24);

    private final Bounds b;

    BoundsOfTexts(Bounds bounds) {
        b = bounds;
    }

    void all() {
        textIsShort();
        cellsOfAText();
        numbers();
        placesOfFaults();
        lowestPlace();
        fallingNumbers();
        fifthCell();
        type();
        clearText();
        fault();
        read();
    }

    private static ExampleDrawers typed(String text) {
        ExampleDrawers x = new ExampleDrawers();
        Bounds.write(x, text);
        return x;
    }

    private static Bounds.Scene behind(Bounds.Scene scene, String text) {
        return x -> {
            scene.on(x);
            x.clearText();
            Bounds.write(x, text);
        };
    }

    private void isFault(String text, int place, int reason) {
        ExampleDrawers x = typed(text);
        b.is("fault(0) of '" + text + "'", x.fault(0), place);
        b.is("fault(1) of '" + text + "'", x.fault(1), reason);
        b.is("read(1) of '" + text + "'", x.read(1), IMPOSSIBLE);
    }

    /** A text of one cell, alone and as the last of four. */
    private void isCell(String text, int kind, int first, int second) {
        b.is("fault(0) of '" + text + "'", typed(text).fault(0), MISSING);
        ExampleDrawers x = typed("*,*,*," + text);
        x.columns(1, 4);
        b.is("fault(1) of '" + text + "' at last", x.fault(1), MISSING);
        b.is("read(1) of '" + text + "' at last", x.read(1), 0);
        b.is("its kind", x.cellOf(1, 3, 0), kind);
        b.is("its a", x.cellOf(1, 3, 1), first);
        b.is("its b", x.cellOf(1, 3, 2), second);
    }

    // ---- "Texts"

    private void textIsShort() {
        b.says("Texts", "There is a text of at most 60 characters, initially empty");
        ExampleDrawers x = new ExampleDrawers();
        b.is("count(8) at first", x.count(8), 0);
        for (int length = 1; length <= 60; length++) {
            b.is("type", x.type(48), length);
        }
        b.is("the 61st character", x.type(48), LIMIT);
        b.is("count(8)", x.count(8), 60);
        b.is("clearText()", x.clearText(), 60);
        b.is("room again", x.type(48), 1);
    }

    private void cellsOfAText() {
        b.says("Texts", "As an example it is one or more cells with \",\" between two: \"*\" (kind "
                + "0), \"_\" (1), \"!\" (2), a number (3), \"#\" and a number (4), \"<\" or \">\" and "
                + "a number (5, 6), a number, \"-\" and a number (7), a letter w to z (8), \"<\" or "
                + "\">\" and a letter (9, 10)");
        isCell("*", 0, 0, 0);
        isCell("_", 1, 0, 0);
        isCell("!", 2, 0, 0);
        String[] letters = {"w", "x", "y", "z"};
        for (int letter = 0; letter < 4; letter++) {
            isCell(letters[letter], 8, letter, 0);
            isCell("<" + letters[letter], 9, letter, 0);
            isCell(">" + letters[letter], 10, letter, 0);
        }
        int[] edges = {0, 1, 9, 10, 98, 99};
        for (int number : edges) {
            isCell("" + number, 3, number, 0);
            isCell("#" + number, 4, number, 0);
            isCell("<" + number, 5, number, 0);
            isCell(">" + number, 6, number, 0);
            isCell(number + "-" + number, 7, number, number);
            isCell("0-" + number, 7, 0, number);
            isCell(number + "-99", 7, number, 99);
        }
        String[] many = {"*", "*,_", "*,_,!", "*,_,!,5"};
        for (int cells = 1; cells <= 4; cells++) {
            ExampleDrawers x = typed(many[cells - 1]);
            x.columns(0, 4);
            b.is("fault(0) of cells " + cells, x.fault(0), MISSING);
            b.is("read(0) of cells " + cells, x.read(0), 0);
            b.is("cells of other kinds", x.count(5), cells - 1);
        }
        isFault("v", 0, 1);
        isFault("{", 0, 1);
        isFault("W", 0, 1);
        isFault("Z", 0, 1);
        isFault("w-z", 1, 1);
        isFault("#w", 1, 1);
        isFault("<*", 1, 1);
        isFault(">v", 1, 1);
        isFault("<{", 1, 1);
    }

    private void numbers() {
        b.says("Texts", "numbers have one or two digits, 0 ahead allowed");
        isCell("00", 3, 0, 0);
        isCell("09", 3, 9, 0);
        isCell("#00", 4, 0, 0);
        isCell("<01", 5, 1, 0);
        isCell(">09", 6, 9, 0);
        isCell("00-00", 7, 0, 0);
        isCell("01-1", 7, 1, 1);
        isCell("1-01", 7, 1, 1);
        isCell("09-10", 7, 9, 10);
        isFault("000", 2, 1);
        isFault("099", 2, 1);
        isFault("100", 2, 1);
        isFault("#100", 3, 1);
        isFault("<000", 3, 1);
        isFault(">999", 3, 1);
        isFault("100-101", 2, 1);
        isFault("0-100", 4, 1);
        isFault("00-001", 5, 1);
        isFault("#", 1, 1);
        isFault("<", 1, 1);
        isFault(">", 1, 1);
        isFault("-5", 0, 1);
        isFault("5-", 2, 1);
        isFault("5--5", 2, 1);
        isFault("#-5", 1, 1);
        isFault("/", 0, 1);
        isFault(":", 0, 1);
        isFault("1/", 1, 1);
        isFault("1:", 1, 1);
    }

    private void placesOfFaults() {
        b.says("Texts", "1: a character that cannot stand at its place (its index; the length of "
                + "the text if it ends too early, as the empty text does)");
        isFault("", 0, 1);
        isFault(" ", 0, 1);
        isFault(" *", 0, 1);
        isFault("* ", 1, 1);
        isFault("*~", 1, 1);
        isFault(",", 0, 1);
        isFault(",*", 0, 1);
        isFault("*,", 2, 1);
        isFault("*,,", 2, 1);
        isFault("*,*,", 4, 1);
        isFault("*,*,*,", 6, 1);
        isFault("*,*,*,,", 6, 1);
        isFault("*,*,*,#", 7, 1);
        isFault("*,*,*,5-", 8, 1);
        isFault("99-99,99-99,99-99,99-", 21, 1);
        isFault("99-99,99-99,99-99,99-990", 23, 1);
        isFault("**", 1, 1);
        isFault("*5", 1, 1);
        isFault("5*", 1, 1);
        isFault("5w", 1, 1);
        isFault("w5", 1, 1);
        isFault("<w5", 2, 1);
        isFault("<5-6", 2, 1);
        isFault("5-6-7", 3, 1);
        isFault(" ".repeat(60), 0, 1);
        isFault("5".repeat(60), 2, 1);
        for (int character = 32; character <= 126; character++) {
            ExampleDrawers x = new ExampleDrawers();
            x.type(character);
            boolean alone = "*_!0123456789wxyz".indexOf(character) >= 0;
            boolean begins = "#<>".indexOf(character) >= 0;
            b.is("fault(0) of " + character, x.fault(0), alone ? MISSING : begins ? 1 : 0);
            b.is("fault(1) of " + character, x.fault(1), alone ? MISSING : 1);
        }
    }

    private void lowestPlace() {
        b.says("Texts", "The fault of the text is told by a place and a reason, the one with the "
                + "lowest place");
        isFault("$,$", 0, 1);
        isFault("*,$,$", 2, 1);
        isFault("9-3,$", 0, 2);
        isFault("$,9-3", 0, 1);
        isFault("*,9-3,8-2", 2, 2);
        isFault("9-3,*,*,*,*", 0, 2);
        isFault("*,*,*,9-3,*", 6, 2);
        isFault("*,*,*,$,*", 6, 1);
        isFault("*,*,*,*$,*", 7, 1);
        isFault("*,*,*,*,9-3", 7, 3);
        isFault("*,*,*,*,*,*", 7, 3);
        isFault("9-3x", 0, 2);
        isFault("9-33x", 4, 1);
        isFault("50-345", 0, 2);
        isFault("9-", 2, 1);
        isFault("9-x", 2, 1);
    }

    private void fallingNumbers() {
        b.says("Texts", "2: the first character of a cell of kind 7 whose second number is below "
                + "the first one");
        isFault("1-0", 0, 2);
        isFault("99-98", 0, 2);
        isFault("99-0", 0, 2);
        isFault("10-9", 0, 2);
        isFault("10-09", 0, 2);
        isFault("01-00", 0, 2);
        isCell("0-1", 7, 0, 1);
        isCell("9-10", 7, 9, 10);
        isCell("98-99", 7, 98, 99);
        isCell("5-05", 7, 5, 5);
        isFault("*,1-0", 2, 2);
        isFault("12-13,1-0", 6, 2);
        isFault("*,*,*,1-0", 6, 2);
        isFault("99-99,99-99,99-99,99-98", 18, 2);
    }

    private void fifthCell() {
        b.says("Texts", "3: the \",\" ahead of a fifth cell (its index; whatever stands behind it)");
        isFault("*,*,*,*,*", 7, 3);
        isFault("*,*,*,*,", 7, 3);
        isFault("*,*,*,*,,", 7, 3);
        isFault("*,*,*,*,$", 7, 3);
        isFault("*,*,*,*, ", 7, 3);
        isFault("*,*,*,*,1-0", 7, 3);
        isFault("99-99,99-99,99-99,99-99,", 23, 3);
        isFault(LONG, 11, 3);
        isFault(LONG + ",", 11, 3);
        b.is("fault(0) of four cells", typed("*,*,*,*").fault(0), MISSING);
    }

    // ---- "Promise 22: type"

    private void type() {
        b.says("Promise 22", "Appends a character to the text");
        ExampleDrawers x = typed("1");
        x.type('2');
        x.read(0);
        b.is("the text is 12", x.cellOf(0, 0, 1), 12);
        b.says("Promise 22", "`character`: 32 to 126");
        b.range("type(_)", Scenes::asked, ExampleDrawers::type, 32, 126);
        b.range("type(_)", Scenes::untouched, ExampleDrawers::type, 32, 126);
        b.says("Promise 22", "Returns the length of the text");
        b.is("the first", new ExampleDrawers().type(32), 1);
        b.is("the second", typed("*").type(126), 2);
        b.is("the sixtieth", typed(LONG).type(42), 60);
        x = Bounds.after(Scenes::few);
        x.type(42);
        b.is("it is no change", x.count(7), 3);
        b.is("undo()", x.undo(), 2);
        b.is("undo() leaves the text", x.count(8), 1);
        b.says("Promise 22", "INVALID_ARGUMENT if character is out of range");
        b.refused("type(31)", INVALID, Scenes::full, y -> y.type(31));
        b.refused("type(127)", INVALID, behind(Scenes::few, LONG + "*"), y -> y.type(127));
        b.says("Promise 22", "LIMIT_REACHED if it has 60 characters");
        b.refused("the 61st", LIMIT, behind(Scenes::few, LONG + "*"), y -> y.type(42));
        b.refused("the 61st", LIMIT, behind(Scenes::asked, " ".repeat(60)), y -> y.type(126));
    }

    // ---- "Promise 23: clearText"

    private void clearText() {
        b.says("Promise 23", "Empties the text");
        ExampleDrawers x = Bounds.after(Scenes::asked);
        x.clearText();
        b.is("count(8)", x.count(8), 0);
        b.is("fault(0)", x.fault(0), 0);
        b.is("fault(1)", x.fault(1), 1);
        b.is("read(0)", x.read(0), IMPOSSIBLE);
        x.type('9');
        b.is("nothing is left of it", x.fault(0), MISSING);
        x.read(0);
        b.is("the text is 9", x.cellOf(0, 0, 1), 9);
        b.says("Promise 23", "Returns the length it had");
        b.is("of none", new ExampleDrawers().clearText(), 0);
        b.is("of one", typed("*").clearText(), 1);
        b.is("of sixty", typed(LONG + "*").clearText(), 60);
        x = typed("***");
        b.is("of three", x.clearText(), 3);
        b.is("again", x.clearText(), 0);
        b.noChange("clearText() of none", 0, Scenes::few, ExampleDrawers::clearText);
        x = Bounds.after(Scenes::few);
        x.type(42);
        x.clearText();
        b.is("it is no change", x.count(7), 3);
        x.undo();
        b.is("undo() does not bring it back", x.count(8), 0);
    }

    // ---- "Promise 24: fault"

    private void fault() {
        b.says("Promise 24", "Tells about the fault of the text as an example");
        b.noChange("fault(0) of none", 0, Scenes::few, x -> x.fault(0));
        b.noChange("fault(1)", 3, behind(Scenes::asked, LONG), x -> x.fault(1));
        b.says("Promise 24", "`what`: 0: its place");
        b.range("fault(_)", behind(Scenes::asked, "*,5-4"), ExampleDrawers::fault, 0, 1);
        b.is("fault(0)", typed("*,5-4").fault(0), 2);
        b.says("Promise 24", "1: its reason");
        b.range("fault(_)", Scenes::asked, ExampleDrawers::fault, 0, 1);
        b.is("fault(1)", typed("*,5-4").fault(1), 2);
        b.says("Promise 24", "Returns that");
        b.is("fault(1)", typed("*,5-").fault(1), 1);
        b.says("Promise 24", "INVALID_ARGUMENT if what is out of range");
        b.refused("fault(2)", INVALID, Scenes::untouched, x -> x.fault(2));
        b.refused("fault(-1)", INVALID, Scenes::asked, x -> x.fault(-1));
        b.says("Promise 24", "NOT_FOUND if the text has no fault");
        for (int what = 0; what < 2; what++) {
            int w = what;
            b.refused("fault(_)", MISSING, Scenes::asked, x -> x.fault(w));
            b.refused("fault(_)", MISSING, behind(Scenes::few, "99-99,99-99,99-99,99-99"),
                    x -> x.fault(w));
            b.refused("more cells than columns are no fault", MISSING, x -> {
                x.columns(0, 1);
                x.columns(1, 1);
                Bounds.write(x, "*,*,*,*");
            }, x -> x.fault(w));
        }
    }

    // ---- "Promise 25: read"

    private void read() {
        b.says("Promise 25", "Makes the example of a drawer that of the text, which stays: its "
                + "cells from the column 0 on");
        b.change("read(1)", 3, behind(Scenes::asked, "<x,5,6,7"), x -> x.read(1));
        b.change("read(1) of the last cell", 0, behind(Scenes::asked, "<x,5,6,_"),
                x -> x.read(1));
        ExampleDrawers x = Bounds.after(behind(Scenes::asked, "1,#2,3-4,>z"));
        x.read(1);
        b.is("the text stays", x.count(8), 11);
        b.is("it can be read again", x.read(1), x.many());
        int[][] due = {{3, 1, 0}, {4, 2, 0}, {7, 3, 4}, {10, 3, 0}};
        for (int column = 0; column < 4; column++) {
            for (int what = 0; what < 3; what++) {
                b.is("cellOf(1, " + column + ", " + what + ")", x.cellOf(1, column, what),
                        due[column][what]);
            }
        }
        b.is("the other example stays", x.cellOf(0, 0, 0), 8);
        columnsWithoutACell();
        b.says("Promise 25", "`drawer`: 0 or 1");
        b.range("read(_)", behind(Scenes::asked, "*"), ExampleDrawers::read, 0, 1);
        b.range("read(_)", behind(Scenes::few, "$"), ExampleDrawers::read, 0, 1);
        readReturns();
        b.says("Promise 25", "INVALID_ARGUMENT if drawer is out of range");
        b.refused("read(2)", INVALID, behind(Scenes::full, "1,2,3,4"), y -> y.read(2));
        b.refused("read(-1) of a faulty text", INVALID, Scenes::few, y -> y.read(-1));
        readIsNotPossible();
    }

    private void columnsWithoutACell() {
        b.says("Promise 25", "columns for which it has no cell get one of kind 0");
        String text = "1,2,3,4";
        for (int cells = 1; cells <= 4; cells++) {
            for (int many = cells; many <= 4; many++) {
                ExampleDrawers x = typed(text.substring(0, 2 * cells - 1));
                x.columns(0, many);
                for (int column = 0; column < many; column++) {
                    x.cell(0, column, 7, 88, 89);
                }
                b.is("read(0)", x.read(0), 0);
                b.is("cells of other kinds", x.count(5), cells);
                for (int column = 0; column < many; column++) {
                    boolean has = column < cells;
                    b.is("its kind", x.cellOf(0, column, 0), has ? 3 : 0);
                    b.is("its a", x.cellOf(0, column, 1), has ? column + 1 : 0);
                    b.is("its b", x.cellOf(0, column, 2), 0);
                }
                x.undo();
                b.is("cells of other kinds after undo()", x.count(5), many);
                b.is("the last a after undo()", x.cellOf(0, many - 1, 1), 88);
            }
        }
        textsAfterOneAnother();
    }

    private void textsAfterOneAnother() {
        ExampleDrawers x = typed("1-2,3-4,5-6");
        x.read(0);
        x.clearText();
        Bounds.write(x, "*,!");
        x.read(1);
        b.is("'*' after another text", x.cellOf(1, 0, 0), 0);
        b.is("its a", x.cellOf(1, 0, 1), 0);
        b.is("its b", x.cellOf(1, 0, 2), 0);
        b.is("'!' after another text", x.cellOf(1, 1, 0), 2);
        b.is("its a", x.cellOf(1, 1, 1), 0);
        b.is("no cell after another text", x.cellOf(1, 2, 0), 0);
        b.is("the first text's example stays", x.cellOf(0, 2, 2), 6);
        x.clearText();
        Bounds.write(x, "7-8,$");
        b.is("a faulty text", x.read(1), IMPOSSIBLE);
        x.clearText();
        x.type('*');
        x.read(1);
        b.is("'*' after a faulty text", x.cellOf(1, 0, 0), 0);
    }

    private void readReturns() {
        b.says("Promise 25", "Returns how many rows fit then");
        b.change("read(0) without cards", 0, behind(Scenes::untouched, "*"), x -> x.read(0));
        b.change("read(0) of what all fit", 2, behind(Scenes::few, "5"), x -> x.read(0));
        b.change("read(0) of what none fits", 0, behind(Scenes::few, "6"), x -> x.read(0));
        b.change("read(1) of what is not asked", 2, behind(Scenes::few, "6"), x -> x.read(1));
        b.change("read(0) of pairs", 0, behind(Scenes::asked, "*"), x -> x.read(0));
        b.change("read(1) of pairs", 6, behind(Scenes::asked, "*"), x -> x.read(1));
        b.change("read(1) of pairs with its letter", 1, behind(Scenes::asked, "x"),
                x -> x.read(1));
        b.change("read(1) of all pairs", 144, behind(Scenes::full, "!,!,!,!"), x -> x.read(1));
        b.change("read(0) of pairs with a value", 132, behind(Scenes::full, "!,!,!,!"),
                x -> x.read(0));
    }

    private void readIsNotPossible() {
        b.says("Promise 25", "NOT_POSSIBLE if the text has a fault");
        String[] faults = {"", " ", "5,", "5,6-5", "5,6,7,8,9", "5,6,7,8,", "123", "5 "};
        for (String text : faults) {
            b.refused("read(1) of '" + text + "'", IMPOSSIBLE, behind(Scenes::asked, text),
                    x -> x.read(1));
        }
        b.refused("read(0) of a new object", IMPOSSIBLE, Scenes::untouched, x -> x.read(0));
        b.says("Promise 25", "or more cells than the drawer has columns");
        b.refused("read(0) of three cells", IMPOSSIBLE, behind(Scenes::asked, "5,6,7"),
                x -> x.read(0));
        b.refused("read(0) of four cells", IMPOSSIBLE, behind(Scenes::few, "5,6,7,8"),
                x -> x.read(0));
        String text = "*,*,*,*";
        for (int many = 1; many <= 4; many++) {
            for (int cells = 1; cells <= 4; cells++) {
                ExampleDrawers x = typed(text.substring(0, 2 * cells - 1));
                x.columns(1, many);
                b.is("read(1): cells " + cells + ", columns " + many, x.read(1),
                        cells > many ? IMPOSSIBLE : 0);
                b.is("states", x.count(7), cells > many ? 1 : 2);
            }
        }
    }
}
