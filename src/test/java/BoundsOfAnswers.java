/** The promises 13 to 21. */
final class BoundsOfAnswers {
    private static final int INVALID = Bounds.INVALID;
    private static final int IMPOSSIBLE = Bounds.IMPOSSIBLE;
    private static final int MISSING = Bounds.MISSING;

    private final Bounds b;

    BoundsOfAnswers(Bounds bounds) {
        b = bounds;
    }

    void all() {
        many();
        row();
        total();
        unlike();
        cards();
        why();
        tightest();
        count();
        undo();
    }

    /** Two cards with 5 and 8 in the columns 0 and 1, in a drawer with two columns. */
    private static ExampleDrawers two() {
        ExampleDrawers x = new ExampleDrawers();
        x.columns(0, 2);
        x.card(0, 5, 8, 0, 0);
        x.card(0, 6, -1, 0, 0);
        return x;
    }

    // ---- "Promise 13: many"

    private void many() {
        b.says("Promise 13", "Returns how many rows fit");
        b.noChange("many() of no cards", 0, Scenes::untouched, ExampleDrawers::many);
        b.noChange("many() of all cards", 2, Scenes::few, ExampleDrawers::many);
        b.noChange("many() of some pairs", 3, Scenes::asked, ExampleDrawers::many);
        b.noChange("many() of all pairs", 144, Scenes::full, ExampleDrawers::many);
        b.says("Promise 13", "Returns how many");
        ExampleDrawers x = Bounds.after(Scenes::few);
        x.cell(0, 0, 3, 6, 0);
        b.is("many() where none fits", x.many(), 0);
        x.put(0, 1, 0, 6);
        b.is("many() where one fits", x.many(), 1);
        x.both(1);
        b.is("many() with one card of the drawer 1", x.many(), 1);
        x.drop(1, 0);
        b.is("many() with no card of the drawer 1", x.many(), 0);
        x.both(0);
        b.is("many() of the drawer 0 alone", x.many(), 1);
    }

    // ---- "Promise 14: row"

    private void row() {
        b.says("Promise 14", "Returns something of a row that fits, in their order");
        b.noChange("row(143, 1)", 11, Scenes::full, x -> x.row(143, 1));
        b.noChange("row(0, 21), sorted", 5, Scenes::asked, x -> x.row(0, 21));
        indexOfRow();
        whatOfRow();
        b.says("Promise 14", "Returns the number");
        b.is("row(0, 10)", two().row(0, 10), 5);
        b.says("Promise 14", "INVALID_ARGUMENT if index is negative or what is none of these");
        b.refused("row(-1, 0)", INVALID, Scenes::full, x -> x.row(-1, 0));
        b.refused("row(0, 24)", INVALID, Scenes::asked, x -> x.row(0, 24));
        b.refused("row(-1, 2)", INVALID, Scenes::untouched, x -> x.row(-1, 2));
        rowsNotFound();
    }

    private void indexOfRow() {
        b.says("Promise 14", "`index`: 0 for the first one, and so on");
        for (int index : Bounds.outside(0, 2)) {
            b.refused("row(" + index + ", 0)", index < 0 ? INVALID : MISSING, Scenes::asked,
                    x -> x.row(index, 0));
        }
        for (int index = 0; index < 3; index++) {
            b.is("row(" + index + ", 11)", Bounds.after(Scenes::asked).row(index, 11),
                    index == 0 ? -1 : 8);
            b.is("row(" + index + ", 0)", Bounds.after(Scenes::asked).row(index, 0), index);
        }
    }

    private void whatOfRow() {
        b.says("Promise 14", "`what`: 0: its card of the drawer 0");
        int[] whats = {0, 1, 10, 11, 12, 13, 14, 15, 16, 17, 20, 21, 22, 23};
        b.amid("row(0, _)", Scenes::asked, (x, n) -> x.row(0, n), whats);
        b.amid("row(9, _)", Scenes::few, (x, n) -> x.row(9, n), whats);
        ExampleDrawers x = Bounds.after(Scenes::full);
        b.is("row(0, 0)", x.row(0, 0), 0);
        b.is("row(143, 0)", x.row(143, 0), 11);
        b.refused("row(0, -1)", INVALID, Scenes::full, y -> y.row(0, -1));
        b.says("Promise 14", "1: that of the drawer 1");
        b.is("row(0, 1)", x.row(0, 1), 0);
        b.is("row(143, 1)", x.row(143, 1), 11);
        b.refused("row(0, 2)", INVALID, Scenes::full, y -> y.row(0, 2));
        b.says("Promise 14", "10 plus a column (0 to 7): what it has there, -1 for a blank");
        int[] first = {0, 20, 7, 99, 90, 0, 0, 50};
        int[] last = {11, 9, 7, 99, 92, 11, 11, 61};
        for (int column = 0; column < 8; column++) {
            b.is("row(0, 10 + " + column + ")", x.row(0, 10 + column), first[column]);
            b.is("row(143, 10 + " + column + ")", x.row(143, 10 + column), last[column]);
        }
        b.is("row(36, 13), a blank", x.row(36, 13), -1);
        b.refused("row(0, 9)", INVALID, Scenes::full, y -> y.row(0, 9));
        b.refused("row(0, 18)", INVALID, Scenes::full, y -> y.row(0, 18));
        lettersOfRow();
    }

    private void lettersOfRow() {
        b.says("Promise 14", "20 plus a letter (0 to 3): for what that stands");
        ExampleDrawers x = Bounds.after(Scenes::full);
        for (int letter = 0; letter < 4; letter++) {
            x.cell(letter / 2, letter % 2, 8, letter, 0);
        }
        int[] last = {11, 9, 92, 11};
        for (int letter = 0; letter < 4; letter++) {
            b.is("row(143, 20 + letter)", x.row(143, 20 + letter), last[letter]);
        }
        b.is("w stands for 0", x.row(0, 20), 0);
        b.refused("row(0, 19)", INVALID, Scenes::full, y -> y.row(0, 19));
        b.refused("row(0, 24)", INVALID, Scenes::full, y -> y.row(0, 24));
    }

    private void rowsNotFound() {
        b.says("Promise 14", "NOT_FOUND if there are not so many");
        b.refused("row(0, 0) of none", MISSING, Scenes::untouched, x -> x.row(0, 0));
        b.refused("row(2, 0) of two", MISSING, Scenes::few, x -> x.row(2, 0));
        b.refused("row(3, 10) of three", MISSING, Scenes::asked, x -> x.row(3, 10));
        b.refused("row(144, 1) of 144", MISSING, Scenes::full, x -> x.row(144, 1));
        b.refused("row(max, 0)", MISSING, Scenes::full, x -> x.row(Integer.MAX_VALUE, 0));
        b.says("Promise 14", "for 1 and columns of the drawer 1 if that is not asked");
        b.refused("row(0, 1)", MISSING, Scenes::few, x -> x.row(0, 1));
        for (int column = 4; column < 8; column++) {
            int what = 10 + column;
            b.refused("row(0, " + what + ")", MISSING, Scenes::few, x -> x.row(0, what));
        }
        b.says("Promise 14", "for a column that there is not");
        for (int many = 1; many <= 4; many++) {
            ExampleDrawers x = new ExampleDrawers();
            x.columns(0, many);
            x.columns(1, many);
            x.card(0, 1, 1, 1, 1);
            x.card(1, 2, 2, 2, 2);
            x.both(1);
            for (int column = 0; column < 4; column++) {
                b.is("a column of 0", x.row(0, 10 + column), column < many ? 1 : MISSING);
                b.is("a column of 1", x.row(0, 14 + column), column < many ? 2 : MISSING);
            }
        }
        b.says("Promise 14", "for a letter that no cell of kind 8 (of the drawers asked) has");
        b.refused("row(0, 20), w", MISSING, Scenes::asked, x -> x.row(0, 20));
        b.refused("row(0, 23), z", MISSING, Scenes::few, x -> x.row(0, 23));
        ExampleDrawers x = Bounds.after(Scenes::few);
        x.cell(1, 0, 8, 2, 0);
        b.is("y in the drawer 1 that is not asked", x.row(0, 22), MISSING);
        x.both(1);
        b.is("y in the drawer 1", x.row(0, 22), 99);
        x.cell(1, 0, 10, 2, 0);
        b.is("y in a cell of kind 10: no row fits", x.row(0, 22), MISSING);
    }

    // ---- "Promise 15: total"

    private void total() {
        b.says("Promise 15", "Returns something of all rows that fit, in a column");
        b.noChange("total(7, 1)", 12 * (12 * 50 + 66), Scenes::full, x -> x.total(7, 1));
        b.noChange("total(1, 0)", 2, Scenes::asked, x -> x.total(1, 0));
        b.says("Promise 15", "`column`: 0 to 7");
        b.range("total(_, 0)", Scenes::asked, (x, n) -> x.total(n, 0), 0, 7);
        b.range("total(_, 4)", Scenes::few, (x, n) -> x.total(n, 4), 0, 7);
        b.says("Promise 15", "`what`: 0: how many have a value there");
        b.range("total(0, _)", Scenes::asked, (x, n) -> x.total(0, n), 0, 4);
        b.range("total(5, _)", Scenes::few, (x, n) -> x.total(5, n), 0, 4);
        ExampleDrawers x = Bounds.after(Scenes::full);
        b.is("total(3, 0), one card with a blank", x.total(3, 0), 132);
        b.is("total(0, 0)", x.total(0, 0), 144);
        b.is("total(1, 0) of two", two().total(1, 0), 1);
        b.says("Promise 15", "1: the sum of these");
        b.is("total(3, 1)", x.total(3, 1), 132 * 99);
        b.is("total(0, 1)", x.total(0, 1), 12 * 66);
        b.is("total(1, 1) of two", two().total(1, 1), 8);
        b.says("Promise 15", "2: the least one");
        b.is("total(3, 2), the blank is not the least", x.total(3, 2), 99);
        b.is("total(0, 2)", x.total(0, 2), 0);
        b.is("total(4, 2)", x.total(4, 2), 90);
        b.says("Promise 15", "3: the greatest one");
        b.is("total(3, 3)", x.total(3, 3), 99);
        b.is("total(0, 3)", x.total(0, 3), 11);
        b.is("total(4, 3)", x.total(4, 3), 92);
        b.says("Promise 15", "4: how many unlike values");
        b.is("total(3, 4), a blank is no value", x.total(3, 4), 1);
        b.is("total(0, 4)", x.total(0, 4), 12);
        b.is("total(4, 4)", x.total(4, 4), 3);
        b.is("total(2, 4)", x.total(2, 4), 1);
        placesOfEdges();
        edgesOfTotals();
        totalsNotFound();
    }

    /** The least and the greatest one may come first, amid the others, or last. */
    private void placesOfEdges() {
        int[][] values = {{1, 2, 3}, {1, 3, 2}, {2, 1, 3}, {2, 3, 1}, {3, 1, 2}, {3, 2, 1}};
        for (int[] each : values) {
            ExampleDrawers x = new ExampleDrawers();
            for (int value : each) {
                x.card(0, value, -1, 0, 0);
            }
            int[] due = {3, 6, 1, 3, 3};
            for (int what = 0; what < 5; what++) {
                b.is("total(0, " + what + ")", x.total(0, what), due[what]);
            }
        }
    }

    private void edgesOfTotals() {
        b.says("Promise 15", "Returns the number");
        ExampleDrawers x = new ExampleDrawers();
        x.columns(0, 4);
        int[][] cards = {{0, 99, -1, 0}, {0, 99, -1, 99}};
        for (int[] card : cards) {
            x.card(0, card[0], card[1], card[2], card[3]);
        }
        int[][] due = {{2, 0, 0, 0, 1}, {2, 198, 99, 99, 1}, {0, 0, MISSING, MISSING, 0},
            {2, 99, 0, 99, 2}};
        for (int column = 0; column < 4; column++) {
            for (int what = 0; what < 5; what++) {
                b.is("total(" + column + ", " + what + ")", x.total(column, what),
                        due[column][what]);
            }
        }
        ExampleDrawers most = new ExampleDrawers();
        for (int card = 0; card < 12; card++) {
            most.card(0, 99, 0, 0, 0);
            most.card(1, 99, 88 + card, 0, 0);
        }
        most.both(1);
        b.is("the greatest sum", most.total(0, 1), 144 * 99);
        b.is("the most unlike values", most.total(5, 4), 12);
        b.is("the greatest value", most.total(5, 3), 99);
    }

    private void totalsNotFound() {
        b.says("Promise 15", "INVALID_ARGUMENT if an argument is out of range");
        b.refused("total(8, 5)", INVALID, Scenes::full, x -> x.total(8, 5));
        b.refused("total(-1, -1)", INVALID, Scenes::asked, x -> x.total(-1, -1));
        b.says("Promise 15", "NOT_FOUND if that column is not asked, or there is not");
        for (int what = 0; what < 5; what++) {
            int w = what;
            b.refused("total(4, _), not asked", MISSING, Scenes::few, x -> x.total(4, w));
            b.refused("total(7, _), not asked", MISSING, Scenes::few, x -> x.total(7, w));
            b.refused("total(3, _), there is not", MISSING, Scenes::few, x -> x.total(3, w));
            b.refused("total(2, _), there is not", MISSING, Scenes::asked, x -> x.total(2, w));
        }
        for (int many = 1; many <= 4; many++) {
            ExampleDrawers x = Bounds.after(Scenes::few);
            x.both(1);
            x.columns(1, many);
            for (int column = 0; column < 4; column++) {
                b.is("total(4 + " + column + ", 1)", x.total(4 + column, 1),
                        column < many ? 0 : MISSING);
            }
        }
        b.says("Promise 15", "for 2 and 3 without values");
        for (int what = 2; what <= 3; what++) {
            int w = what;
            b.refused("total(0, " + what + ") of no rows", MISSING, Scenes::untouched,
                    x -> x.total(0, w));
            b.refused("total(5, " + what + ") of blanks", MISSING, x -> {
                Scenes.asked(x);
                x.put(1, 0, 1, -1);
            }, x -> x.total(5, w));
        }
        ExampleDrawers x = Bounds.after(Scenes::few);
        x.cell(0, 0, 3, 50, 0);
        int[] due = {0, 0, MISSING, MISSING, 0};
        for (int what = 0; what < 5; what++) {
            b.is("total(0, " + what + ") where none fits", x.total(0, what), due[what]);
        }
    }

    // ---- "Promise 16: unlike"

    private void unlike() {
        b.says("Promise 16", "Returns how many unlike rows there are among those that fit");
        b.noChange("unlike() of none", 0, Scenes::untouched, ExampleDrawers::unlike);
        b.noChange("unlike() of two", 2, Scenes::few, ExampleDrawers::unlike);
        b.noChange("unlike() of three", 3, Scenes::asked, ExampleDrawers::unlike);
        b.noChange("unlike() of 144", 144, Scenes::full, ExampleDrawers::unlike);
        ExampleDrawers x = Bounds.after(Scenes::full);
        x.cell(0, 0, 5, 2, 0);
        b.is("unlike() of those that fit", x.unlike(), 24);
        b.says("Promise 16", "Returns how many");
        x.show(4 + 16);
        b.is("unlike() by a column that is alike, and one with three values", x.unlike(), 3);
        x.show(4);
        b.is("unlike() by a column that is alike", x.unlike(), 1);
        x.cell(0, 0, 5, 0, 0);
        b.is("unlike() where none fits", x.unlike(), 0);
    }

    // ---- "Promise 17: cards"

    private void cards() {
        b.says("Promise 17", "Returns the cards of a drawer that are in any row that fits");
        b.noChange("cards(0) of no cards", 0, Scenes::untouched, x -> x.cards(0));
        b.noChange("cards(0) of all pairs", 4095, Scenes::full, x -> x.cards(0));
        b.noChange("cards(1) of all pairs", 4095, Scenes::full, x -> x.cards(1));
        b.noChange("cards(0) of some pairs", 7, Scenes::asked, x -> x.cards(0));
        b.noChange("cards(1) of some pairs", 1, Scenes::asked, x -> x.cards(1));
        b.says("Promise 17", "`drawer`: 0 or 1");
        b.range("cards(_)", Scenes::asked, ExampleDrawers::cards, 0, 1);
        b.range("cards(_) of the drawer 0", Scenes::few, ExampleDrawers::cards, 0, 1);
        b.says("Promise 17", "Returns the set");
        ExampleDrawers x = Bounds.after(Scenes::full);
        x.cell(0, 0, 8, 0, 0);
        x.cell(1, 1, 9, 0, 0);
        b.is("cards(0): the card 0 has none below it", x.cards(0), 4094);
        b.is("cards(1): the card 11 is below none", x.cards(1), 2047);
        x.cell(1, 1, 3, 0, 0);
        x.cell(0, 0, 3, 11, 0);
        b.is("cards(0): the last one", x.cards(0), 2048);
        b.is("cards(1): the first one", x.cards(1), 1);
        x.columns(1, 1);
        b.is("cards(0): the other drawer is empty", x.cards(0), 0);
        b.is("cards(1): it is empty", x.cards(1), 0);
        b.says("Promise 17", "INVALID_ARGUMENT if drawer is out of range");
        b.refused("cards(2)", INVALID, Scenes::few, y -> y.cards(2));
        b.refused("cards(-1)", INVALID, Scenes::full, y -> y.cards(-1));
        b.says("Promise 17", "NOT_POSSIBLE if it is not asked");
        b.refused("cards(1)", IMPOSSIBLE, Scenes::few, y -> y.cards(1));
        b.refused("cards(1) of a new object", IMPOSSIBLE, Scenes::untouched, y -> y.cards(1));
        x.both(0);
        b.is("cards(1) when it is not asked again", x.cards(1), IMPOSSIBLE);
        b.is("cards(0)", x.cards(0), 2048);
    }

    // ---- "Promise 18: why"

    private void why() {
        b.says("Promise 18", "Tells the first cell that a row does not fit: drawer 0 ahead of "
                + "drawer 1, columns from 0 on");
        b.noChange("why(0, 1)", 4, Scenes::asked, x -> x.why(0, 1));
        for (int first = 0; first < 8; first++) {
            ExampleDrawers x = Bounds.after(Scenes::full);
            for (int place = first; place < 8; place++) {
                x.cell(place / 4, place % 4, 3, 48, 0);
            }
            b.is("why(5, 6) from the cell " + first + " on", x.why(5, 6), first);
            x.both(0);
            b.is("why(5, 0) of the drawer 0 alone", x.why(5, 0), first < 4 ? first : MISSING);
        }
        lettersForItsOwnValues();
        b.says("Promise 18", "`first`: number of a card of the drawer 0");
        b.range("why(_, 0)", Scenes::few, (x, n) -> x.why(n, 0), 0, 1);
        b.range("why(_, 1)", Scenes::asked, (x, n) -> x.why(n, 1), 0, 2);
        b.range("why(_, 11)", Scenes::full, (x, n) -> x.why(n, 11), 0, 11);
        b.refused("why(0, 0) of no card", INVALID, Scenes::untouched, x -> x.why(0, 0));
        b.says("Promise 18", "`second`: number of a card of the drawer 1, 0 if that is not asked");
        b.range("why(0, _)", Scenes::asked, (x, n) -> x.why(0, n), 0, 1);
        b.range("why(11, _)", Scenes::full, (x, n) -> x.why(11, n), 0, 11);
        b.range("why(1, _) of the drawer 0", Scenes::few, (x, n) -> x.why(1, n), 0, 0);
        secondOfAnEmptyDrawer();
        b.says("Promise 18", "Returns 4 times the drawer plus the column");
        b.is("why(2, 1)", Bounds.after(Scenes::asked).why(2, 1), 4);
        b.says("Promise 18", "INVALID_ARGUMENT if an argument is out of range");
        b.refused("why(12, 12)", INVALID, Scenes::full, x -> x.why(12, 12));
        b.refused("why(-1, -1)", INVALID, Scenes::few, x -> x.why(-1, -1));
        b.says("Promise 18", "NOT_FOUND if the row fits");
        b.refused("why(0, 0)", MISSING, Scenes::asked, x -> x.why(0, 0));
        b.refused("why(1, 0)", MISSING, Scenes::few, x -> x.why(1, 0));
        b.refused("why(11, 11)", MISSING, Scenes::full, x -> x.why(11, 11));
    }

    private void lettersForItsOwnValues() {
        b.says("Promise 18", "(with the letters as they stand for its own values)");
        ExampleDrawers x = Bounds.after(Scenes::full);
        x.cell(0, 0, 8, 0, 0);
        x.cell(1, 1, 8, 0, 0);
        x.cell(1, 2, 9, 1, 0);
        x.cell(1, 3, 8, 1, 0);
        for (int first = 0; first < 12; first++) {
            for (int second = 0; second < 12; second++) {
                b.is("why(" + first + ", " + second + ")", x.why(first, second),
                        first == second ? MISSING : 5);
            }
        }
        x.put(1, 3, 3, -1);
        b.is("x stands for a blank of its own", x.why(3, 3), 6);
        b.is("and for a value of another", x.why(4, 4), MISSING);
    }

    private void secondOfAnEmptyDrawer() {
        ExampleDrawers x = two();
        b.is("why(0, 0), the drawer 1 is not asked, and empty", x.why(0, 0), MISSING);
        b.is("why(0, 1)", x.why(0, 1), INVALID);
        x.card(1, 1, 1, 1, 1);
        x.card(1, 1, 1, 1, 1);
        b.is("why(0, 1), there is such a card, but it is not asked", x.why(0, 1), INVALID);
        x.both(1);
        b.is("why(0, 1), it is asked", x.why(0, 1), MISSING);
        x.columns(1, 2);
        b.is("why(0, 0), no card in the drawer 1", x.why(0, 0), INVALID);
    }

    // ---- "Promise 19: tightest"

    private void tightest() {
        b.says("Promise 19", "Finds the cell (of the drawers asked) that holds back most: with "
                + "which of kind 0 instead the most rows would fit");
        b.noChange("tightest(0)", 4, Scenes::asked, x -> x.tightest(0));
        b.noChange("tightest(1)", 6, Scenes::asked, x -> x.tightest(1));
        for (int tight = 0; tight < 8; tight++) {
            ExampleDrawers x = Bounds.after(Scenes::full);
            for (int place = 0; place < 8; place++) {
                x.cell(place / 4, place % 4, place == tight ? 3 : 6, place == tight ? 34 : 0, 0);
            }
            x.put(0, 3, 3, 99);
            b.is("tightest(0)", x.tightest(0), tight);
            b.is("tightest(1)", x.tightest(1), tight == 0 ? 132 : 121);
            x.both(0);
            b.is("tightest(0) of the drawer 0 alone", x.tightest(0), tight < 4 ? tight : 0);
            b.is("tightest(1) of the drawer 0 alone", x.tightest(1),
                    tight == 0 || tight > 3 ? 12 : 11);
        }
        firstOfSeveral();
        b.says("Promise 19", "`what`: 0: 4 times its drawer plus its column");
        b.range("tightest(_)", Scenes::asked, ExampleDrawers::tightest, 0, 1);
        b.is("tightest(0)", Bounds.after(Scenes::asked).tightest(0), 4);
        b.says("Promise 19", "1: how many rows would fit then");
        b.is("tightest(1)", Bounds.after(Scenes::asked).tightest(1), 6);
        b.says("Promise 19", "Returns the number");
        b.range("tightest(_)", Scenes::few, ExampleDrawers::tightest, 0, 1);
        b.says("Promise 19", "INVALID_ARGUMENT if what is out of range");
        b.refused("tightest(2)", INVALID, Scenes::few, x -> x.tightest(2));
        b.refused("tightest(-1)", INVALID, Scenes::full, x -> x.tightest(-1));
        noCellIsTight();
    }

    private void firstOfSeveral() {
        b.says("Promise 19", "of several the first one");
        for (int first = 0; first < 8; first++) {
            for (int second = first + 1; second < 8; second++) {
                ExampleDrawers x = new ExampleDrawers();
                x.columns(0, 4);
                x.columns(1, 4);
                for (int card = 0; card < 2; card++) {
                    x.card(card, 1, 1, 1, 1);
                    x.card(card, 1, 1, 1, 1);
                }
                x.both(1);
                // Without the one cell two rows fit, and so they do without the other.
                x.put(first / 4, 0, first % 4, 2);
                x.put(second / 4, second / 4 == first / 4 ? 1 : 0, second % 4, 2);
                x.cell(first / 4, first % 4, 3, 2, 0);
                x.cell(second / 4, second % 4, 3, 2, 0);
                b.is("tightest(0) of " + first + ", " + second, x.tightest(0), first);
                b.is("tightest(1) of " + first + ", " + second, x.tightest(1), 2);
            }
        }
    }

    private void noCellIsTight() {
        b.says("Promise 19", "NOT_FOUND if no cell makes more rows fit so");
        for (int what = 0; what < 2; what++) {
            int w = what;
            b.refused("all cells of kind 0", MISSING, Scenes::full, x -> x.tightest(w));
            b.refused("no cards", MISSING, Scenes::untouched, x -> x.tightest(w));
            b.refused("a cell that all cards fit", MISSING, x -> {
                Scenes.few(x);
                x.cell(0, 0, 2, 0, 0);
            }, x -> x.tightest(w));
            b.refused("a cell that is not asked", MISSING, x -> {
                Scenes.few(x);
                x.cell(1, 0, 1, 0, 0);
            }, x -> x.tightest(w));
            b.refused("two cells that no card fits", MISSING, x -> {
                Scenes.few(x);
                x.cell(0, 0, 1, 0, 0);
                x.cell(0, 2, 1, 0, 0);
            }, x -> x.tightest(w));
            b.refused("the drawer 1 is empty", MISSING, x -> {
                x.card(0, 1, 1, 1, 1);
                x.cell(0, 0, 3, 2, 0);
                x.both(1);
            }, x -> x.tightest(w));
        }
    }

    // ---- "Promise 20: count"

    private void count() {
        b.says("Promise 20", "Returns a number");
        b.noChange("count(0)", 12, Scenes::full, x -> x.count(0));
        b.noChange("count(7)", 4, Scenes::asked, x -> x.count(7));
        ExampleDrawers x = Bounds.after(Scenes::asked);
        b.says("Promise 20", "`what`: 0, 1: cards of the drawers 0 and 1");
        b.is("count(0)", x.count(0), 3);
        b.is("count(1)", x.count(1), 2);
        b.is("count(1) of twelve", Bounds.after(Scenes::full).count(1), 12);
        b.is("count(0) of none", new ExampleDrawers().count(0), 0);
        b.says("Promise 20", "2, 3: columns of them");
        b.is("count(2)", x.count(2), 2);
        b.is("count(3)", x.count(3), 4);
        b.says("Promise 20", "4: 1 if the question is of both, otherwise 0");
        b.is("count(4)", x.count(4), 1);
        b.is("count(4) at first", new ExampleDrawers().count(4), 0);
        countsOfCells();
        b.says("Promise 20", "6: the set that is shown");
        b.is("count(6)", x.count(6), 19);
        b.is("count(6) at first", new ExampleDrawers().count(6), 255);
        b.says("Promise 20", "7: states in the history");
        ExampleDrawers states = new ExampleDrawers();
        for (int change = 0; change < 8; change++) {
            b.is("count(7)", states.count(7), Math.min(change, 4));
            states.both(0);
        }
        b.says("Promise 20", "8: the length of the text");
        b.is("count(8)", x.count(8), 8);
        b.is("count(8) at first", states.count(8), 0);
        for (int length = 1; length <= 61; length++) {
            states.type(126);
            b.is("count(8)", states.count(8), Math.min(length, 60));
        }
        countsOfOrders();
        b.says("Promise 20", "Returns the number");
        b.is("count(8)", x.count(8), 8);
        b.says("Promise 20", "INVALID_ARGUMENT if what is out of range");
        b.amid("count(_)", Scenes::asked, ExampleDrawers::count, 0, 1, 2, 3, 4, 5, 6, 7, 8, 10,
                11, 12, 13);
        b.refused("count(9)", INVALID, Scenes::full, y -> y.count(9));
        b.refused("count(14)", INVALID, Scenes::full, y -> y.count(14));
        b.refused("count(-1)", INVALID, Scenes::full, y -> y.count(-1));
    }

    private void countsOfCells() {
        b.says("Promise 20", "5: cells (of both drawers) of other kinds than 0");
        ExampleDrawers x = new ExampleDrawers();
        x.columns(0, 4);
        x.columns(1, 4);
        for (int cell = 0; cell < 8; cell++) {
            b.is("count(5)", x.count(5), cell);
            x.cell(cell / 4, cell % 4, 1 + cell, 0, 0);
        }
        b.is("count(5) of all", x.count(5), 8);
        x.cell(1, 0, 0, 0, 0);
        b.is("count(5) with one of kind 0", x.count(5), 7);
        x.columns(0, 4);
        b.is("count(5) of the drawer 1 that is not asked", x.count(5), 3);
    }

    private void countsOfOrders() {
        b.says("Promise 20", "10, 11: the columns of both orders, -1: none");
        ExampleDrawers x = Bounds.after(Scenes::asked);
        b.is("count(10)", x.count(10), 4);
        b.is("count(11)", x.count(11), 1);
        b.is("count(10) at first", new ExampleDrawers().count(10), -1);
        b.is("count(11) at first", new ExampleDrawers().count(11), -1);
        x.order(0, -1, 0);
        x.order(1, 7, 0);
        b.is("count(10), none", x.count(10), -1);
        b.is("count(11)", x.count(11), 7);
        x.columns(1, 1);
        b.is("count(11), there is no such column any more", x.count(11), 7);
        b.says("Promise 20", "12, 13: 1 if they go downwards (as was told, also without a "
                + "column), otherwise 0");
        x = Bounds.after(Scenes::asked);
        b.is("count(12)", x.count(12), 1);
        b.is("count(13)", x.count(13), 0);
        b.is("count(12) at first", new ExampleDrawers().count(12), 0);
        b.is("count(13) at first", new ExampleDrawers().count(13), 0);
        x.order(0, -1, 0);
        x.order(1, -1, 1);
        b.is("count(12) without a column", x.count(12), 0);
        b.is("count(13) without a column", x.count(13), 1);
    }

    // ---- "Promise 21: undo"

    private void undo() {
        b.says("Promise 21", "Restores the latest state of the history, which is removed from it");
        ExampleDrawers x = new ExampleDrawers();
        x.card(0, 1, 1, 1, 1);
        x.put(0, 0, 0, 2);
        x.put(0, 0, 0, 3);
        x.undo();
        b.is("the latest state", x.valueOf(0, 0, 0), 2);
        x.undo();
        b.is("the one ahead of it", x.valueOf(0, 0, 0), 1);
        x.put(0, 0, 0, 9);
        x.undo();
        b.is("a state that was kept after undo()", x.valueOf(0, 0, 0), 1);
        x.undo();
        b.is("the first state", x.count(0), 0);
        b.says("Promise 21", "Returns the number of states that are left in the history");
        x = Bounds.after(Scenes::full);
        for (int left = 3; left >= 0; left--) {
            b.is("undo()", x.undo(), left);
            b.is("count(7)", x.count(7), left);
        }
        b.says("Promise 21", "NOT_POSSIBLE if it is empty");
        b.is("undo() after four", x.undo(), IMPOSSIBLE);
        b.is("undo() again", x.undo(), IMPOSSIBLE);
        b.refused("undo() of a new object", IMPOSSIBLE, Scenes::untouched, ExampleDrawers::undo);
        b.refused("undo() after as many as there are", IMPOSSIBLE, y -> {
            Scenes.asked(y);
            while (y.count(7) > 0) {
                y.undo();
            }
        }, ExampleDrawers::undo);
    }
}
