/** Promises 7 to 12: cell, clear, both, order, show, cellOf. */
public final class QuestionTest {
    private static final int INVALID = ExampleDrawers.INVALID_ARGUMENT;
    private static final int MISSING = ExampleDrawers.NOT_FOUND;
    private static final Due DUE = new Due("QuestionTest");

    public static void main(String[] args) {
        cellRanges();
        cellSets();
        cellFits();
        letters();
        lettersOfTheFirstCell();
        clear();
        both();
        order();
        orderOfPairs();
        orderWithoutAColumn();
        show();
        cellOf();
        DUE.end();
    }

    private static void cellRanges() {
        DUE.part("promise 7, ranges");
        ExampleDrawers x = new ExampleDrawers();
        // The greatest a of each kind; b is 0, but for kind 7.
        int[] greatest = {0, 0, 0, 99, 99, 99, 99, 99, 3, 3, 3};
        for (int kind = 0; kind <= 10; kind++) {
            int b = kind == 7 ? 99 : 0;
            DUE.is("a least, kind " + kind, Math.min(x.cell(0, 0, kind, 0, b), 0), 0);
            DUE.is("a greatest, kind " + kind, x.cell(0, 0, kind, greatest[kind], b), kind);
            DUE.is("a too small, kind " + kind, x.cell(0, 0, kind, -1, b), INVALID);
            DUE.is("a too large, kind " + kind, x.cell(0, 0, kind, greatest[kind] + 1, b), INVALID);
            DUE.is("b too small, kind " + kind, x.cell(0, 0, kind, 0, -1), INVALID);
            DUE.is("b too large, kind " + kind, x.cell(0, 0, kind, 0, b + 1), INVALID);
        }
        DUE.is("b as a", x.cell(0, 0, 7, 40, 40), 10);
        DUE.is("b below a", x.cell(0, 0, 7, 40, 39), INVALID);
        DUE.is("kind -1", x.cell(0, 0, -1, 0, 0), INVALID);
        DUE.is("kind 11", x.cell(0, 0, 11, 0, 0), INVALID);
        DUE.is("drawer -1", x.cell(-1, 0, 0, 0, 0), INVALID);
        DUE.is("drawer 2", x.cell(2, 0, 0, 0, 0), INVALID);
        DUE.is("column -1", x.cell(1, -1, 0, 0, 0), INVALID);
        DUE.is("column 3", x.cell(1, 3, 0, 0, 0), INVALID);
        x.columns(1, 4);
        DUE.is("column 3 of four", x.cell(1, 3, 0, 0, 0), 0);
        DUE.is("column 4 of four", x.cell(1, 4, 0, 0, 0), INVALID);
    }

    private static void cellSets() {
        DUE.part("promise 7, what it sets");
        ExampleDrawers x = new ExampleDrawers();
        DUE.is("cell(0, 1, 7, 5, 9)", x.cell(0, 1, 7, 5, 9), 0);
        DUE.is("cell(1, 1, 3, 8, 0)", x.cell(1, 1, 3, 8, 0), 0);
        DUE.is("a wrong one", x.cell(0, 1, 3, 100, 0), INVALID);
        DUE.is("states", x.count(7), 2);
        DUE.is("its kind", x.cellOf(0, 1, 0), 7);
        DUE.is("its a", x.cellOf(0, 1, 1), 5);
        DUE.is("its b", x.cellOf(0, 1, 2), 9);
        DUE.is("the same again", x.cell(0, 1, 7, 5, 9), 7);
        DUE.is("states: the same is a change", x.count(7), 3);
        DUE.is("cell(0, 1, 3, 6, 0)", x.cell(0, 1, 3, 6, 0), 7);
        DUE.is("its b", x.cellOf(0, 1, 2), 0);
        x.undo();
        DUE.is("its kind after undo", x.cellOf(0, 1, 0), 7);
        DUE.is("its b after undo", x.cellOf(0, 1, 2), 9);
        x.undo();
        x.undo();
        DUE.is("its kind in drawer 1", x.cellOf(1, 1, 0), 0);
        x.undo();
        DUE.is("its kind at first", x.cellOf(0, 1, 0), 0);
    }

    private static void cellFits() {
        DUE.part("what fits");
        ExampleDrawers x = new ExampleDrawers();
        x.columns(0, 1);
        // Cards 0 to 4.
        int[] values = {-1, 0, 49, 50, 99};
        for (int value : values) {
            x.card(0, value, -1, -1, -1);
        }
        // A kind, its numbers, and the set of the cards that fit.
        int[][] due = {{0, 0, 0, 31}, {1, 0, 0, 1}, {2, 0, 0, 30}, {3, 50, 0, 8}, {3, 0, 0, 2},
            {4, 50, 0, 22}, {5, 50, 0, 6}, {5, 0, 0, 0}, {6, 49, 0, 24}, {6, 99, 0, 0},
            {7, 0, 49, 6}, {7, 49, 50, 12}, {7, 50, 99, 24}, {7, 1, 48, 0}, {8, 2, 0, 30},
            {9, 2, 0, 0}, {10, 2, 0, 0}};
        for (int[] each : due) {
            x.cell(0, 0, each[0], each[1], each[2]);
            String name = "kind " + each[0] + ", " + each[1] + ", " + each[2];
            DUE.is("cards(0), " + name, x.cards(0), each[3]);
            DUE.is("many(), " + name, x.many(), Integer.bitCount(each[3]));
            DUE.is("cellOf(0, 0, 3), " + name, x.cellOf(0, 0, 3), Integer.bitCount(each[3]));
        }
    }

    private static void letters() {
        DUE.part("letters");
        ExampleDrawers x = new ExampleDrawers();
        x.columns(0, 2);
        int[][] cards = {{5, 5}, {5, 6}, {6, 5}, {-1, 5}, {5, -1}, {-1, -1}};
        for (int[] card : cards) {
            x.card(0, card[0], card[1], -1, -1);
        }
        x.cell(0, 0, 8, 1, 0);
        DUE.is("x alone", x.cards(0), 1 + 2 + 4 + 16);
        x.cell(0, 1, 8, 1, 0);
        DUE.is("x, x", x.cards(0), 1);
        x.cell(0, 1, 8, 2, 0);
        DUE.is("x, y", x.cards(0), 1 + 2 + 4);
        x.cell(0, 1, 9, 1, 0);
        DUE.is("x, <x", x.cards(0), 4);
        x.cell(0, 1, 10, 1, 0);
        DUE.is("x, >x", x.cards(0), 2);
        x.cell(0, 1, 10, 2, 0);
        DUE.is("x, >y without y", x.cards(0), 0);
        x.cell(0, 0, 9, 3, 0);
        x.cell(0, 1, 8, 3, 0);
        DUE.is("<z, z told behind it", x.cards(0), 2);
        x.cell(0, 0, 10, 3, 0);
        DUE.is(">z, z", x.cards(0), 4);
        x.cell(0, 1, 0, 0, 0);
        DUE.is(">z, *", x.cards(0), 0);
    }

    private static void lettersOfTheFirstCell() {
        DUE.part("letters of both drawers");
        ExampleDrawers x = new ExampleDrawers();
        x.columns(0, 1);
        x.columns(1, 2);
        x.card(0, 5, -1, -1, -1);
        x.card(0, 7, -1, -1, -1);
        x.card(1, 5, 7, -1, -1);
        x.card(1, 7, 5, -1, -1);
        x.card(1, -1, 7, -1, -1);
        x.cell(0, 0, 10, 0, 0);
        x.cell(1, 0, 8, 0, 0);
        DUE.is("drawer 1 is not asked", x.many(), 0);
        x.both(1);
        DUE.is("drawer 1 tells w", x.many(), 1);
        DUE.is("its first card", x.row(0, 0), 1);
        DUE.is("its second card", x.row(0, 1), 0);
        DUE.is("w", x.row(0, 20), 5);
        x.cell(0, 0, 8, 0, 0);
        x.cell(1, 0, 9, 0, 0);
        x.cell(1, 1, 8, 0, 0);
        DUE.is("drawer 0 tells w", x.many(), 1);
        DUE.is("its first card", x.row(0, 0), 1);
        DUE.is("its second card", x.row(0, 1), 0);
        DUE.is("w", x.row(0, 20), 7);
        x.clear(0);
        x.columns(1, 4);
        x.card(1, 5, 6, 7, 8);
        x.cell(1, 2, 9, 3, 0);
        x.cell(1, 3, 8, 3, 0);
        DUE.is("the last cell tells z", x.many(), 2);
        DUE.is("z", x.row(0, 23), 8);
        x.cell(1, 1, 8, 3, 0);
        DUE.is("the cell ahead of it tells z", x.many(), 0);
    }

    private static void clear() {
        DUE.part("promise 8");
        ExampleDrawers x = new ExampleDrawers();
        DUE.is("clear(0) of none", x.clear(0), 0);
        DUE.is("states: it is a change", x.count(7), 1);
        x.cell(0, 0, 7, 2, 4);
        x.cell(0, 2, 1, 0, 0);
        x.cell(1, 1, 3, 5, 0);
        DUE.is("clear(-1)", x.clear(-1), INVALID);
        DUE.is("clear(2)", x.clear(2), INVALID);
        DUE.is("cells left", x.count(5), 3);
        DUE.is("clear(0)", x.clear(0), 2);
        DUE.is("cells left", x.count(5), 1);
        for (int what = 0; what < 3; what++) {
            DUE.is("cellOf(0, 0, " + what + ")", x.cellOf(0, 0, what), 0);
        }
        DUE.is("clear(1)", x.clear(1), 1);
        DUE.is("cells left", x.count(5), 0);
        x.undo();
        x.undo();
        DUE.is("cells left after undo", x.count(5), 3);
        DUE.is("cellOf(0, 0, 2) after undo", x.cellOf(0, 0, 2), 4);
    }

    private static void both() {
        DUE.part("promise 9");
        ExampleDrawers x = new ExampleDrawers();
        x.card(0, 1, 1, 1, 1);
        x.card(0, 2, 2, 2, 2);
        DUE.is("both(-1)", x.both(-1), INVALID);
        DUE.is("both(2)", x.both(2), INVALID);
        DUE.is("states", x.count(7), 2);
        DUE.is("many() of the drawer 0", x.many(), 2);
        DUE.is("both(1)", x.both(1), 0);
        DUE.is("many() of an empty drawer 1", x.many(), 0);
        DUE.is("count(4)", x.count(4), 1);
        DUE.is("both(1) again", x.both(1), 1);
        DUE.is("states", x.count(7), 4);
        x.card(1, 3, 3, 3, 3);
        x.card(1, 4, 4, 4, 4);
        x.card(1, 5, 5, 5, 5);
        DUE.is("many() of pairs", x.many(), 6);
        x.cell(1, 0, 6, 3, 0);
        DUE.is("many() of pairs that fit", x.many(), 4);
        DUE.is("both(0)", x.both(0), 1);
        DUE.is("many() without the drawer 1", x.many(), 2);
        DUE.is("undo()", x.undo(), 3);
        DUE.is("count(4) after undo", x.count(4), 1);
        DUE.is("many() after undo", x.many(), 4);
    }

    private static void order() {
        DUE.part("promise 10");
        ExampleDrawers x = new ExampleDrawers();
        int[][] cards = {{3, 1}, {-1, 2}, {3, -1}, {0, 2}, {-1, 1}};
        for (int[] card : cards) {
            x.card(0, card[0], card[1], 0, 0);
        }
        int[][] wrong = {{-1, 0, 0}, {2, 0, 0}, {0, -2, 0}, {0, 8, 0}, {0, 0, -1}, {0, 0, 2}};
        x.show(255);
        x.undo();
        for (int[] each : wrong) {
            DUE.is("order of what is out of range", x.order(each[0], each[1], each[2]), INVALID);
        }
        DUE.is("states", x.count(7), 3);
        rows(x, "no order", 0, 1, 2, 3, 4);
        DUE.is("order(0, 0, 0)", x.order(0, 0, 0), 5);
        rows(x, "upwards", 1, 4, 3, 0, 2);
        DUE.is("order(0, 0, 1)", x.order(0, 0, 1), 5);
        rows(x, "downwards", 0, 2, 3, 1, 4);
        DUE.is("order(1, 1, 0)", x.order(1, 1, 0), 5);
        rows(x, "downwards, then upwards", 2, 0, 3, 4, 1);
        DUE.is("order(1, 1, 1)", x.order(1, 1, 1), 5);
        rows(x, "downwards, then downwards", 0, 2, 3, 1, 4);
        DUE.is("order(0, -1, 1)", x.order(0, -1, 1), 5);
        rows(x, "the second alone", 1, 3, 0, 4, 2);
        DUE.is("count(10)", x.count(10), -1);
        DUE.is("count(11)", x.count(11), 1);
        DUE.is("count(12)", x.count(12), 1);
        x.cell(0, 0, 2, 0, 0);
        DUE.is("order with three rows", x.order(1, 1, 0), 3);
        rows(x, "three rows", 2, 0, 3);
        x.undo();
        x.undo();
        x.undo();
        DUE.is("count(10) after undo", x.count(10), 0);
        rows(x, "after undo", 0, 2, 3, 1, 4);
    }

    private static void orderOfPairs() {
        DUE.part("promise 10, pairs");
        ExampleDrawers x = new ExampleDrawers();
        x.card(0, 1, 0, 0, 0);
        x.card(0, 2, 0, 0, 0);
        x.card(1, 8, 0, 0, 0);
        x.card(1, 7, 0, 0, 0);
        x.order(0, 4, 0);
        rows(x, "an order that is not asked", 0, 1);
        x.both(1);
        pairs(x, "by the drawer 1", 1, 101, 0, 100);
        x.order(1, 0, 1);
        pairs(x, "then by the drawer 0", 101, 1, 100, 0);
        x.order(0, 7, 1);
        pairs(x, "a column that there is not", 100, 101, 0, 1);
        x.order(1, 3, 1);
        pairs(x, "two columns that there are not", 0, 1, 100, 101);
    }

    private static void orderWithoutAColumn() {
        DUE.part("promise 10, orders stay");
        ExampleDrawers x = new ExampleDrawers();
        x.order(0, 3, 1);
        x.card(0, 1, 0, 0, 0);
        x.columns(0, 4);
        x.card(0, 0, 0, 0, 5);
        x.card(0, 0, 0, 0, 6);
        rows(x, "the column is there now", 1, 0);
    }

    private static void rows(ExampleDrawers x, String name, int... due) {
        for (int index = 0; index < due.length; index++) {
            DUE.is(name + ": row(" + index + ", 0)", x.row(index, 0), due[index]);
        }
        DUE.is(name + ": one more", x.row(due.length, 0), MISSING);
    }

    private static void pairs(ExampleDrawers x, String name, int... due) {
        for (int index = 0; index < due.length; index++) {
            DUE.is(name + ": row " + index, 100 * x.row(index, 0) + x.row(index, 1), due[index]);
        }
        DUE.is(name + ": one more", x.row(due.length, 1), MISSING);
    }

    private static void show() {
        DUE.part("promise 11");
        ExampleDrawers x = new ExampleDrawers();
        x.columns(0, 2);
        int[][] cards = {{1, 1}, {1, 2}, {-1, 1}, {-1, 1}};
        for (int[] card : cards) {
            x.card(0, card[0], card[1], card[0] + card[1], card[1] * 9);
        }
        DUE.is("show(-1)", x.show(-1), INVALID);
        DUE.is("show(256)", x.show(256), INVALID);
        DUE.is("states", x.count(7), 4);
        DUE.is("show(255)", x.show(255), 3);
        DUE.is("show(3)", x.show(3), 3);
        DUE.is("show(1)", x.show(1), 2);
        DUE.is("show(2)", x.show(2), 2);
        DUE.is("show(0)", x.show(0), 1);
        DUE.is("show(12), no such columns", x.show(12), 1);
        DUE.is("show(240), not asked", x.show(240), 1);
        x.card(1, 5, 6, 7, 0);
        x.card(1, 5, 6, 8, 0);
        x.card(1, 5, 9, 8, 0);
        DUE.is("drawer 1 does not matter", x.show(255), 3);
        x.both(1);
        DUE.is("all of pairs", x.show(255), 9);
        DUE.is("show(16)", x.show(16), 1);
        DUE.is("show(32)", x.show(32), 2);
        DUE.is("show(64 + 1)", x.show(65), 4);
        DUE.is("count(6)", x.count(6), 65);
        DUE.is("undo()", x.undo(), 3);
        DUE.is("count(6) after undo", x.count(6), 32);
        DUE.is("unlike() after undo", x.unlike(), 2);
    }

    private static void cellOf() {
        DUE.part("promise 12");
        ExampleDrawers x = new ExampleDrawers();
        x.columns(1, 2);
        x.card(1, 4, 1, 0, 0);
        x.card(1, -1, 2, 0, 0);
        x.card(1, 6, 3, 0, 0);
        int[][] wrong = {{-1, 0, 0}, {2, 0, 0}, {1, -1, 0}, {1, 2, 0}, {0, 3, 0}, {1, 0, -1},
            {1, 0, 4}};
        for (int[] each : wrong) {
            DUE.is("cellOf of what is out of range", x.cellOf(each[0], each[1], each[2]), INVALID);
        }
        DUE.is("kind 0 is fitted by all", x.cellOf(1, 0, 3), 3);
        x.cell(1, 1, 3, 99, 0);
        x.cell(1, 0, 7, 5, 60);
        DUE.is("its kind", x.cellOf(1, 0, 0), 7);
        DUE.is("its a", x.cellOf(1, 0, 1), 5);
        DUE.is("its b", x.cellOf(1, 0, 2), 60);
        DUE.is("who fits it by themselves", x.cellOf(1, 0, 3), 1);
        DUE.is("who fits the other", x.cellOf(1, 1, 3), 0);
        x.cell(1, 0, 1, 0, 0);
        DUE.is("a blank", x.cellOf(1, 0, 3), 1);
        x.cell(1, 0, 8, 3, 0);
        DUE.is("its letter", x.cellOf(1, 0, 1), 3);
        DUE.is("a letter", x.cellOf(1, 0, 3), 2);
        x.cell(1, 1, 10, 3, 0);
        DUE.is("above a letter", x.cellOf(1, 1, 3), 0);
        x.cell(1, 1, 9, 3, 0);
        DUE.is("below a letter", x.cellOf(1, 1, 3), 0);
    }
}
