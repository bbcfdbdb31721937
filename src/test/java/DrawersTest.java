/** Promises 1 to 6: a new object, columns, card, put, drop, valueOf. */
public final class DrawersTest {
    private static final int INVALID = ExampleDrawers.INVALID_ARGUMENT;
    private static final int LIMIT = ExampleDrawers.LIMIT_REACHED;
    private static final Due DUE = new Due("DrawersTest");

    public static void main(String[] args) {
        newObject();
        columns();
        columnsOfTheExample();
        card();
        cardIsFull();
        put();
        drop();
        valueOf();
        DUE.end();
    }

    private static void newObject() {
        DUE.part("promise 1");
        ExampleDrawers x = new ExampleDrawers();
        int[] due = {0, 0, 3, 3, 0, 0, 255, 0, 0, INVALID, -1, -1, 0, 0};
        for (int what = 0; what < due.length; what++) {
            DUE.is("count(" + what + ")", x.count(what), due[what]);
        }
        for (int drawer = 0; drawer < 2; drawer++) {
            for (int column = 0; column < 3; column++) {
                for (int what = 0; what < 4; what++) {
                    DUE.is("cellOf", x.cellOf(drawer, column, what), 0);
                }
            }
            DUE.is("cellOf of a column that there is not", x.cellOf(drawer, 3, 0), INVALID);
        }
        DUE.is("many()", x.many(), 0);
        DUE.is("unlike()", x.unlike(), 0);
        DUE.is("cards(0)", x.cards(0), 0);
        DUE.is("undo()", x.undo(), ExampleDrawers.NOT_POSSIBLE);
        ExampleDrawers other = new ExampleDrawers();
        x.card(0, 1, 2, 3, 4);
        DUE.is("count(0) of another object", other.count(0), 0);
    }

    private static void columns() {
        DUE.part("promise 2");
        ExampleDrawers x = new ExampleDrawers();
        x.card(0, 1, 2, 3, 4);
        x.card(0, 5, 6, 7, 8);
        x.card(1, 9, 9, 9, 9);
        int[][] wrong = {{-1, 3}, {2, 3}, {0, 0}, {0, 5}, {1, -1},
            {Integer.MIN_VALUE, Integer.MAX_VALUE}};
        for (int[] each : wrong) {
            DUE.is("columns(" + each[0] + ", " + each[1] + ")", x.columns(each[0], each[1]),
                    INVALID);
        }
        DUE.is("states after wrong ones", x.count(7), 3);
        DUE.is("cards after wrong ones", x.count(0), 2);
        DUE.is("columns(0, 4)", x.columns(0, 4), 2);
        DUE.is("states", x.count(7), 4);
        DUE.is("cards of 0", x.count(0), 0);
        DUE.is("cards of 1", x.count(1), 1);
        DUE.is("columns of 0", x.count(2), 4);
        DUE.is("columns of 1", x.count(3), 3);
        DUE.is("columns(0, 4) again", x.columns(0, 4), 0);
        DUE.is("columns(1, 1)", x.columns(1, 1), 1);
        DUE.is("columns of 1", x.count(3), 1);
        DUE.is("card", x.card(1, 7, 8, 9, 9), 0);
        DUE.is("valueOf(1, 0, 0)", x.valueOf(1, 0, 0), 7);
        DUE.is("valueOf(1, 0, 1)", x.valueOf(1, 0, 1), INVALID);
    }

    private static void columnsOfTheExample() {
        DUE.part("promise 2, the example");
        ExampleDrawers x = new ExampleDrawers();
        x.order(0, 2, 1);
        x.show(5);
        x.both(1);
        x.cell(0, 2, 7, 4, 9);
        x.cell(1, 0, 3, 8, 0);
        DUE.is("columns(0, 3)", x.columns(0, 3), 0);
        for (int what = 0; what < 3; what++) {
            DUE.is("cellOf(0, 2, " + what + ")", x.cellOf(0, 2, what), 0);
        }
        DUE.is("cells of other kinds", x.count(5), 1);
        DUE.is("cellOf(1, 0, 0)", x.cellOf(1, 0, 0), 3);
        DUE.is("the order stays", x.count(10), 2);
        DUE.is("its direction stays", x.count(12), 1);
        DUE.is("the set shown stays", x.count(6), 5);
        DUE.is("the question stays", x.count(4), 1);
        DUE.is("undo()", x.undo(), 3);
        DUE.is("cellOf(0, 2, 0) after undo", x.cellOf(0, 2, 0), 7);
        DUE.is("cellOf(0, 2, 2) after undo", x.cellOf(0, 2, 2), 9);
    }

    private static void card() {
        DUE.part("promise 3");
        ExampleDrawers x = new ExampleDrawers();
        int[][] wrong = {{-1, 1, 1, 1, 1}, {2, 1, 1, 1, 1}, {0, -2, 1, 1, 1}, {0, 100, 1, 1, 1},
            {0, 1, -2, 1, 1}, {0, 1, 100, 1, 1}, {0, 1, 1, -2, 1}, {0, 1, 1, 100, 1},
            {0, 1, 1, 1, -2}, {0, 1, 1, 1, 100}, {1, 1, 1, 1, Integer.MAX_VALUE}};
        for (int[] each : wrong) {
            DUE.is("card of what is out of range",
                    x.card(each[0], each[1], each[2], each[3], each[4]), INVALID);
        }
        DUE.is("states after wrong ones", x.count(7), 0);
        DUE.is("the first card", x.card(0, -1, 0, 99, 50), 0);
        DUE.is("the second card", x.card(0, 4, 5, 6, -1), 1);
        DUE.is("the first card of drawer 1", x.card(1, 4, 3, 2, 1), 0);
        DUE.is("cards of 0", x.count(0), 2);
        DUE.is("cards of 1", x.count(1), 1);
        int[][] due = {{-1, 0, 99}, {4, 5, 6}};
        for (int card = 0; card < 2; card++) {
            for (int column = 0; column < 3; column++) {
                DUE.is("valueOf", x.valueOf(0, card, column), due[card][column]);
            }
        }
        DUE.is("valueOf(1, 0, 2)", x.valueOf(1, 0, 2), 2);
        DUE.is("states", x.count(7), 3);
    }

    private static void cardIsFull() {
        DUE.part("promise 3, full");
        ExampleDrawers x = new ExampleDrawers();
        x.columns(1, 4);
        for (int card = 0; card < 12; card++) {
            DUE.is("card " + card, x.card(1, card, card, card, 20 + card), card);
        }
        DUE.is("a card too many", x.card(1, 1, 1, 1, 1), LIMIT);
        DUE.is("a card too many, of a wrong value", x.card(1, 1, 1, 1, 100), INVALID);
        DUE.is("cards", x.count(1), 12);
        DUE.is("the last value", x.valueOf(1, 11, 3), 31);
        DUE.is("the other drawer", x.card(0, 1, 1, 1, 1), 0);
        DUE.is("drop(1, 0)", x.drop(1, 0), 11);
        DUE.is("room again", x.card(1, 1, 1, 1, 1), 11);
        DUE.is("undo()", x.undo(), 3);
        x.undo();
        x.undo();
        DUE.is("undo() of the last card", x.undo(), 0);
        DUE.is("cards", x.count(1), 11);
    }

    private static void put() {
        DUE.part("promise 4");
        ExampleDrawers x = new ExampleDrawers();
        x.card(0, 1, 2, 3, 4);
        x.card(0, 5, 6, 7, 8);
        int[][] wrong = {{-1, 0, 0, 1}, {2, 0, 0, 1}, {0, -1, 0, 1}, {0, 2, 0, 1}, {1, 0, 0, 1},
            {0, 0, -1, 1}, {0, 0, 3, 1}, {0, 0, 0, -2}, {0, 0, 0, 100},
            {0, Integer.MAX_VALUE, Integer.MAX_VALUE, 1}};
        for (int[] each : wrong) {
            DUE.is("put of what is out of range", x.put(each[0], each[1], each[2], each[3]),
                    INVALID);
        }
        DUE.is("states after wrong ones", x.count(7), 2);
        DUE.is("put(0, 1, 2, 99)", x.put(0, 1, 2, 99), 7);
        DUE.is("put(0, 1, 2, -1)", x.put(0, 1, 2, -1), 99);
        DUE.is("put(0, 1, 2, 0)", x.put(0, 1, 2, 0), -1);
        DUE.is("states: a blank is no error", x.count(7), 4);
        DUE.is("valueOf(0, 1, 2)", x.valueOf(0, 1, 2), 0);
        DUE.is("valueOf(0, 1, 1)", x.valueOf(0, 1, 1), 6);
        DUE.is("valueOf(0, 0, 2)", x.valueOf(0, 0, 2), 3);
        x.undo();
        DUE.is("valueOf(0, 1, 2) after undo", x.valueOf(0, 1, 2), -1);
        x.undo();
        DUE.is("valueOf(0, 1, 2) after two", x.valueOf(0, 1, 2), 99);
        DUE.is("put of the same", x.put(0, 1, 2, 99), 99);
        DUE.is("states", x.count(7), 3);
    }

    private static void drop() {
        DUE.part("promise 5");
        ExampleDrawers x = new ExampleDrawers();
        x.card(0, 10, 11, 12, 0);
        x.card(0, 20, 21, 22, 0);
        x.card(0, 30, 31, 32, 0);
        int[][] wrong = {{-1, 0}, {2, 0}, {0, -1}, {0, 3}, {1, 0}, {0, Integer.MIN_VALUE}};
        for (int[] each : wrong) {
            DUE.is("drop of what is out of range", x.drop(each[0], each[1]), INVALID);
        }
        DUE.is("states after wrong ones", x.count(7), 3);
        DUE.is("drop(0, 1)", x.drop(0, 1), 2);
        DUE.is("valueOf(0, 0, 2)", x.valueOf(0, 0, 2), 12);
        DUE.is("valueOf(0, 1, 0)", x.valueOf(0, 1, 0), 30);
        DUE.is("valueOf(0, 1, 2)", x.valueOf(0, 1, 2), 32);
        DUE.is("valueOf(0, 2, 0)", x.valueOf(0, 2, 0), INVALID);
        DUE.is("drop(0, 1)", x.drop(0, 1), 1);
        DUE.is("drop(0, 0)", x.drop(0, 0), 0);
        DUE.is("drop(0, 0) of none", x.drop(0, 0), INVALID);
        DUE.is("undo()", x.undo(), 3);
        DUE.is("undo()", x.undo(), 2);
        DUE.is("undo()", x.undo(), 1);
        DUE.is("cards after undo", x.count(0), 3);
        DUE.is("valueOf(0, 1, 1) after undo", x.valueOf(0, 1, 1), 21);
        DUE.is("valueOf(0, 2, 1) after undo", x.valueOf(0, 2, 1), 31);
    }

    private static void valueOf() {
        DUE.part("promise 6");
        ExampleDrawers x = new ExampleDrawers();
        x.columns(0, 4);
        x.card(0, 0, 99, -1, 42);
        x.card(1, 1, 2, 3, 4);
        int[][] wrong = {{-1, 0, 0}, {2, 0, 0}, {0, -1, 0}, {0, 1, 0}, {0, 0, -1}, {0, 0, 4},
            {1, 0, 3}, {1, 1, 0}, {0, 0, Integer.MIN_VALUE}};
        for (int[] each : wrong) {
            DUE.is("valueOf of what is out of range", x.valueOf(each[0], each[1], each[2]),
                    INVALID);
        }
        int[] due = {0, 99, -1, 42};
        for (int column = 0; column < 4; column++) {
            DUE.is("valueOf(0, 0, " + column + ")", x.valueOf(0, 0, column), due[column]);
        }
        DUE.is("valueOf(1, 0, 1)", x.valueOf(1, 0, 1), 2);
        DUE.is("states: no change", x.count(7), 3);
    }
}
