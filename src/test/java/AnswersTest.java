/** Promises 13 to 21: many, row, total, unlike, cards, why, tightest, count, undo. */
public final class AnswersTest {
    private static final int INVALID = ExampleDrawers.INVALID_ARGUMENT;
    private static final int IMPOSSIBLE = ExampleDrawers.NOT_POSSIBLE;
    private static final int MISSING = ExampleDrawers.NOT_FOUND;
    private static final Due DUE = new Due("AnswersTest");

    public static void main(String[] args) {
        many();
        row();
        rowOfPairs();
        total();
        totalOfPairs();
        unlike();
        cards();
        why();
        whyOfLetters();
        tightest();
        tightestOfLetters();
        count();
        undo();
        undoOfEverything();
        answersAreNoChanges();
        DUE.end();
    }

    private static void fill(ExampleDrawers x, int drawer, int[][] cards) {
        for (int[] card : cards) {
            x.card(drawer, card[0], card[1], -1, -1);
        }
    }

    private static ExampleDrawers twoByTwo(int[][] firsts, int[][] seconds) {
        ExampleDrawers x = new ExampleDrawers();
        x.columns(0, 2);
        x.columns(1, 2);
        fill(x, 0, firsts);
        fill(x, 1, seconds);
        return x;
    }

    private static void many() {
        DUE.part("promise 13");
        ExampleDrawers x = new ExampleDrawers();
        DUE.is("many() of none", x.many(), 0);
        for (int card = 0; card < 12; card++) {
            x.card(0, card, 0, 0, 0);
            x.card(1, card, 0, 0, 0);
        }
        DUE.is("many() of cards", x.many(), 12);
        x.both(1);
        DUE.is("many() of pairs", x.many(), 144);
        x.cell(0, 0, 5, 5, 0);
        DUE.is("many() with a cell", x.many(), 60);
        x.cell(1, 0, 6, 9, 0);
        DUE.is("many() with two", x.many(), 10);
        x.cell(1, 1, 6, 0, 0);
        DUE.is("many() where none fits", x.many(), 0);
    }

    private static void row() {
        DUE.part("promise 14");
        ExampleDrawers x = twoByTwo(new int[][] {{3, 4}, {5, -1}, {6, 1}}, new int[][] {{8, 9}});
        x.cell(0, 0, 4, 3, 0);
        DUE.is("row(0, 0)", x.row(0, 0), 1);
        DUE.is("row(1, 0)", x.row(1, 0), 2);
        DUE.is("row(2, 0)", x.row(2, 0), MISSING);
        DUE.is("row(0, 10)", x.row(0, 10), 5);
        DUE.is("row(0, 11)", x.row(0, 11), -1);
        DUE.is("row(0, 12), no such column", x.row(0, 12), MISSING);
        DUE.is("row(0, 13), no such column", x.row(0, 13), MISSING);
        DUE.is("row(0, 1), not asked", x.row(0, 1), MISSING);
        DUE.is("row(0, 14), not asked", x.row(0, 14), MISSING);
        for (int letter = 0; letter < 4; letter++) {
            DUE.is("no letter", x.row(0, 20 + letter), MISSING);
        }
        int[] wrong = {-1, 2, 9, 18, 19, 24, 30, Integer.MAX_VALUE, Integer.MIN_VALUE};
        for (int what : wrong) {
            DUE.is("row(0, " + what + ")", x.row(0, what), INVALID);
            DUE.is("row(9, " + what + ")", x.row(9, what), INVALID);
        }
        DUE.is("row(-1, 0)", x.row(-1, 0), INVALID);
        DUE.is("row(-1, 23)", x.row(-1, 23), INVALID);
        DUE.is("row(max, 0)", x.row(Integer.MAX_VALUE, 0), MISSING);
    }

    private static void rowOfPairs() {
        DUE.part("promise 14, pairs");
        ExampleDrawers x = twoByTwo(new int[][] {{3, 4}, {5, 6}}, new int[][] {{7, -1}, {5, 9}});
        x.both(1);
        int[][] due = {{0, 0, 3, 4, 7, -1}, {0, 1, 3, 4, 5, 9}, {1, 0, 5, 6, 7, -1},
            {1, 1, 5, 6, 5, 9}};
        int[] what = {0, 1, 10, 11, 14, 15};
        for (int index = 0; index < 4; index++) {
            for (int i = 0; i < what.length; i++) {
                DUE.is("row(" + index + ", " + what[i] + ")", x.row(index, what[i]),
                        due[index][i]);
            }
        }
        DUE.is("row(0, 16), no such column", x.row(0, 16), MISSING);
        DUE.is("row(0, 17), no such column", x.row(0, 17), MISSING);
        DUE.is("row(4, 0)", x.row(4, 0), MISSING);
        x.cell(1, 1, 8, 3, 0);
        DUE.is("z of the drawer 1", x.row(1, 23), 9);
        DUE.is("w", x.row(1, 20), MISSING);
        x.both(0);
        DUE.is("z that is not asked", x.row(1, 23), MISSING);
        x.cell(0, 0, 8, 2, 0);
        DUE.is("y of the drawer 0", x.row(1, 22), 5);
        DUE.is("y of a row that there is not", x.row(2, 22), MISSING);
    }

    private static void total() {
        DUE.part("promise 15");
        ExampleDrawers x = twoByTwo(
                new int[][] {{3, -1}, {9, -1}, {3, -1}, {-1, -1}, {0, -1}}, new int[][] {{8, 9}});
        totals(x, 0, 4, 15, 0, 9, 3);
        totals(x, 1, 0, 0, MISSING, MISSING, 0);
        totals(x, 2, MISSING, MISSING, MISSING, MISSING, MISSING);
        totals(x, 4, MISSING, MISSING, MISSING, MISSING, MISSING);
        x.cell(0, 0, 6, 2, 0);
        totals(x, 0, 3, 15, 3, 9, 2);
        x.cell(0, 0, 5, 0, 0);
        totals(x, 0, 0, 0, MISSING, MISSING, 0);
        x.cell(0, 0, 3, 9, 0);
        totals(x, 0, 1, 9, 9, 9, 1);
        x.clear(0);
        x.drop(0, 0);
        totals(x, 0, 3, 12, 0, 9, 3);
        x.drop(0, 2);
        x.drop(0, 2);
        x.card(0, 5, -1, -1, -1);
        totals(x, 0, 3, 17, 3, 9, 3);
        int[][] wrong = {{-1, 0}, {8, 0}, {0, -1}, {0, 5}, {4, 5}, {2, -1}};
        for (int[] each : wrong) {
            DUE.is("total of what is out of range", x.total(each[0], each[1]), INVALID);
        }
    }

    private static void totalOfPairs() {
        DUE.part("promise 15, pairs");
        ExampleDrawers x = twoByTwo(new int[][] {{99, 1}, {99, 2}},
                new int[][] {{99, 5}, {-1, 5}, {98, 6}});
        x.both(1);
        totals(x, 0, 6, 594, 99, 99, 1);
        totals(x, 1, 6, 9, 1, 2, 2);
        totals(x, 4, 4, 394, 98, 99, 2);
        totals(x, 5, 6, 32, 5, 6, 2);
        totals(x, 6, MISSING, MISSING, MISSING, MISSING, MISSING);
        x.cell(1, 1, 3, 5, 0);
        totals(x, 4, 2, 198, 99, 99, 1);
    }

    private static void totals(ExampleDrawers x, int column, int... due) {
        for (int what = 0; what < due.length; what++) {
            DUE.is("total(" + column + ", " + what + ")", x.total(column, what), due[what]);
        }
    }

    private static void unlike() {
        DUE.part("promise 16");
        ExampleDrawers x = twoByTwo(new int[][] {{1, 2}, {1, 2}, {1, -1}, {1, -1}, {2, 1}},
                new int[][] {{7, 7}, {7, 8}, {7, 7}});
        DUE.is("unlike()", x.unlike(), 3);
        x.cell(0, 1, 1, 0, 0);
        DUE.is("unlike() of those that fit", x.unlike(), 1);
        x.clear(0);
        x.both(1);
        DUE.is("unlike() of pairs", x.unlike(), 6);
        x.show(1 + 32);
        DUE.is("unlike() by two columns", x.unlike(), 4);
        x.show(0);
        DUE.is("unlike() without columns", x.unlike(), 1);
        x.cell(0, 0, 3, 50, 0);
        DUE.is("unlike() without rows", x.unlike(), 0);
    }

    private static void cards() {
        DUE.part("promise 17");
        ExampleDrawers x = twoByTwo(new int[][] {{1, 5}, {2, 5}, {3, 5}, {2, 6}},
                new int[][] {{2, 0}, {4, 0}, {3, 0}});
        DUE.is("cards(-1)", x.cards(-1), INVALID);
        DUE.is("cards(2)", x.cards(2), INVALID);
        DUE.is("cards(0)", x.cards(0), 15);
        DUE.is("cards(1), not asked", x.cards(1), IMPOSSIBLE);
        x.both(1);
        DUE.is("cards(1)", x.cards(1), 7);
        x.cell(0, 0, 8, 0, 0);
        x.cell(1, 0, 8, 0, 0);
        DUE.is("cards(0) of alike values", x.cards(0), 14);
        DUE.is("cards(1) of alike values", x.cards(1), 5);
        x.cell(1, 1, 1, 0, 0);
        DUE.is("cards(1) of none", x.cards(1), 0);
        ExampleDrawers full = new ExampleDrawers();
        for (int card = 0; card < 12; card++) {
            full.card(0, card, 0, 0, 0);
        }
        DUE.is("cards(0) of all", full.cards(0), 4095);
    }

    private static void why() {
        DUE.part("promise 18");
        ExampleDrawers x = twoByTwo(new int[][] {{1, 5}, {2, 6}}, new int[][] {{3, 0}, {4, 1}});
        x.cell(0, 0, 3, 1, 0);
        x.cell(0, 1, 6, 8, 0);
        x.cell(1, 1, 3, 1, 0);
        DUE.is("why(0, 0)", x.why(0, 0), 1);
        DUE.is("why(1, 0)", x.why(1, 0), 0);
        x.cell(0, 1, 2, 0, 0);
        DUE.is("why(0, 0) that fits", x.why(0, 0), MISSING);
        int[][] wrong = {{-1, 0}, {2, 0}, {0, 1}, {0, -1}};
        for (int[] each : wrong) {
            DUE.is("why(" + each[0] + ", " + each[1] + ")", x.why(each[0], each[1]), INVALID);
        }
        x.both(1);
        DUE.is("why(0, 0) of pairs", x.why(0, 0), 5);
        DUE.is("why(0, 1) of pairs", x.why(0, 1), MISSING);
        DUE.is("why(1, 1) of pairs", x.why(1, 1), 0);
        DUE.is("why(0, 2) of pairs", x.why(0, 2), INVALID);
        DUE.is("why(0, -1) of pairs", x.why(0, -1), INVALID);
        DUE.is("why(2, 0) of pairs", x.why(2, 0), INVALID);
        x.columns(1, 2);
        DUE.is("why(0, 0), no card in the drawer 1", x.why(0, 0), INVALID);
        x.both(0);
        DUE.is("why(0, 0), the drawer 1 is not asked", x.why(0, 0), MISSING);
    }

    private static void whyOfLetters() {
        DUE.part("promise 18, letters");
        ExampleDrawers x = twoByTwo(new int[][] {{5, 4}, {-1, 4}, {5, -1}, {4, 4}},
                new int[][] {{5, 4}, {4, 4}});
        x.both(1);
        x.cell(0, 0, 10, 1, 0);
        x.cell(0, 1, 8, 1, 0);
        x.cell(1, 0, 8, 1, 0);
        DUE.is("another value", x.why(0, 0), 4);
        DUE.is("the same value", x.why(0, 1), MISSING);
        DUE.is("a blank", x.why(1, 1), 0);
        DUE.is("told by a blank", x.why(2, 1), 0);
        DUE.is("not above it", x.why(3, 1), 0);
        x.cell(0, 0, 0, 0, 0);
        DUE.is("the letter is a blank", x.why(2, 1), 1);
        x.cell(1, 1, 9, 2, 0);
        DUE.is("a letter of no cell", x.why(0, 1), 5);
    }

    private static void tightest() {
        DUE.part("promise 19");
        ExampleDrawers x = twoByTwo(new int[][] {{1, 5}, {2, 6}, {3, 7}, {1, 7}},
                new int[][] {{3, 0}, {4, 1}, {5, 1}});
        tightests(x, MISSING, MISSING);
        x.cell(0, 1, 3, 7, 0);
        tightests(x, 1, 4);
        x.cell(0, 0, 3, 1, 0);
        tightests(x, 0, 2);
        x.cell(0, 0, 5, 3, 0);
        tightests(x, 1, 3);
        x.cell(1, 0, 3, 5, 0);
        tightests(x, 1, 3);
        x.both(1);
        tightests(x, 1, 3);
        x.cell(0, 1, 0, 0, 0);
        tightests(x, 4, 9);
        x.cell(1, 1, 1, 0, 0);
        tightests(x, 5, 3);
        x.cell(0, 0, 1, 0, 0);
        tightests(x, MISSING, MISSING);
        DUE.is("tightest(-1)", x.tightest(-1), INVALID);
        DUE.is("tightest(2)", x.tightest(2), INVALID);
    }

    private static void tightestOfLetters() {
        DUE.part("promise 19, letters");
        ExampleDrawers x = new ExampleDrawers();
        int[][] cards = {{5, 6, 6}, {5, 7, 7}, {5, 5, 6}, {-1, 9, 9}};
        for (int[] card : cards) {
            x.card(0, card[0], card[1], card[2], 0);
        }
        x.cell(0, 0, 8, 0, 0);
        x.cell(0, 1, 8, 0, 0);
        x.cell(0, 2, 8, 0, 0);
        // Without the cell 0 the cell 1 tells for what w stands: the cards 0, 1 and 3 fit.
        tightests(x, 0, 3);
        x.cell(0, 2, 10, 0, 0);
        // The card 2 fits; without the cell 1 the cards 0, 1 and 2 do.
        tightests(x, 1, 3);
        x.cell(0, 1, 0, 0, 0);
        // Without the cell 0 no cell tells w: nothing fits, the cell holds nothing back.
        tightests(x, MISSING, MISSING);
    }

    private static void tightests(ExampleDrawers x, int cell, int rows) {
        DUE.is("tightest(0)", x.tightest(0), cell);
        DUE.is("tightest(1)", x.tightest(1), rows);
    }

    private static void count() {
        DUE.part("promise 20");
        ExampleDrawers x = new ExampleDrawers();
        x.columns(0, 2);
        x.columns(1, 4);
        x.card(0, 1, 1, 1, 1);
        x.card(1, 1, 1, 1, 1);
        x.card(1, 2, 2, 2, 2);
        x.both(1);
        x.cell(0, 0, 1, 0, 0);
        x.cell(1, 3, 2, 0, 0);
        x.cell(1, 0, 3, 0, 0);
        x.show(9);
        x.order(0, 7, 0);
        x.order(1, -1, 1);
        x.type('a');
        x.type('b');
        int[] due = {1, 2, 2, 4, 1, 3, 9, 4, 2, INVALID, 7, -1, 0, 1};
        for (int what = 0; what < due.length; what++) {
            DUE.is("count(" + what + ")", x.count(what), due[what]);
        }
        x.order(0, -1, 1);
        x.order(1, 0, 0);
        DUE.is("count(10)", x.count(10), -1);
        DUE.is("count(11)", x.count(11), 0);
        DUE.is("count(12)", x.count(12), 1);
        DUE.is("count(13)", x.count(13), 0);
        int[] wrong = {-1, 9, 14, Integer.MIN_VALUE, Integer.MAX_VALUE};
        for (int what : wrong) {
            DUE.is("count(" + what + ")", x.count(what), INVALID);
        }
    }

    private static void undo() {
        DUE.part("promise 21");
        ExampleDrawers x = new ExampleDrawers();
        DUE.is("undo() of none", x.undo(), IMPOSSIBLE);
        for (int card = 0; card < 6; card++) {
            x.card(0, card, 0, 0, 0);
            DUE.is("states", x.count(7), Math.min(card + 1, 4));
        }
        for (int left = 3; left >= 0; left--) {
            DUE.is("undo()", x.undo(), left);
            DUE.is("cards", x.count(0), left + 2);
        }
        DUE.is("undo() of none", x.undo(), IMPOSSIBLE);
        DUE.is("cards", x.count(0), 2);
        x.drop(0, 0);
        DUE.is("states after another change", x.count(7), 1);
        x.both(1);
        DUE.is("undo()", x.undo(), 1);
        DUE.is("undo()", x.undo(), 0);
        DUE.is("the card is back", x.valueOf(0, 0, 0), 0);
        DUE.is("the other card is back", x.valueOf(0, 1, 0), 1);
    }

    private static void undoOfEverything() {
        DUE.part("promise 21, each change");
        for (int change = 0; change < 10; change++) {
            ExampleDrawers x = new ExampleDrawers();
            x.columns(0, 2);
            x.card(0, 11, 12, 0, 0);
            x.card(1, 21, 22, 23, 0);
            x.cell(0, 1, 7, 3, 44);
            x.cell(1, 2, 3, 23, 0);
            x.both(1);
            x.order(0, 1, 1);
            x.order(1, 4, 0);
            x.show(7);
            x.type('5');
            int[] before = everything(x);
            change(x, change);
            DUE.is("states after the change " + change, x.count(7), 4);
            x.type('6');
            DUE.is("undo() of the change " + change, x.undo(), 3);
            int[] after = everything(x);
            for (int i = 0; i < before.length; i++) {
                DUE.is("answer " + i + " after undo of " + change, after[i], before[i]);
            }
            DUE.is("the text is not undone", x.count(8), 2);
        }
    }

    private static void change(ExampleDrawers x, int which) {
        switch (which) {
            case 0: x.columns(0, 4); break;
            case 1: x.card(1, 1, 2, 3, 4); break;
            case 2: x.put(0, 0, 1, -1); break;
            case 3: x.drop(1, 0); break;
            case 4: x.cell(0, 1, 8, 3, 0); break;
            case 5: x.clear(1); break;
            case 6: x.both(0); break;
            case 7: x.order(0, -1, 0); break;
            case 8: x.show(0); break;
            default: x.read(0); break;
        }
    }

    private static int[] everything(ExampleDrawers x) {
        int[] all = new int[64];
        int size = 0;
        for (int what = 0; what < 14; what++) {
            all[size++] = what == 7 || what == 8 ? 0 : x.count(what);
        }
        for (int drawer = 0; drawer < 2; drawer++) {
            for (int column = 0; column < 4; column++) {
                for (int what = 0; what < 4; what++) {
                    all[size++] = x.cellOf(drawer, column, what);
                }
                all[size++] = x.valueOf(drawer, 0, column);
            }
        }
        all[size++] = x.many();
        all[size++] = x.unlike();
        all[size++] = x.why(0, 0);
        return all;
    }

    private static void answersAreNoChanges() {
        DUE.part("changes");
        ExampleDrawers x = new ExampleDrawers();
        x.card(0, 1, 2, 3, 4);
        x.valueOf(0, 0, 0);
        x.cellOf(0, 0, 0);
        x.many();
        x.row(0, 0);
        x.total(0, 0);
        x.unlike();
        x.cards(0);
        x.why(0, 0);
        x.tightest(0);
        x.count(0);
        x.type('*');
        x.fault(0);
        x.clearText();
        DUE.is("states", x.count(7), 1);
        x.read(0);
        DUE.is("states after a read that is not possible", x.count(7), 1);
    }
}
