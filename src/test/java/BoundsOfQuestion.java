/** "Examples", "What fits", and the promises 7 to 12. */
final class BoundsOfQuestion {
    private static final int INVALID = Bounds.INVALID;
    private static final int MISSING = Bounds.MISSING;

    /** The values of the cards 0 to 7 in the tests of the kinds of cells; the first is a blank. */
    private static final int[] EDGES = {-1, 0, 1, 49, 50, 51, 98, 99};

    private final Bounds b;

    BoundsOfQuestion(Bounds bounds) {
        b = bounds;
    }

    void all() {
        cellsOfAnExample();
        plainKinds();
        letterKinds();
        whoTellsALetter();
        otherCellsOfALetter();
        letterOfNoCell();
        lettersOfTheDrawer1();
        rowsThatFit();
        plainOrder();
        orders();
        rowsThatAreAlike();
        cell();
        clear();
        both();
        order();
        show();
        cellOf();
    }

    // ---- "Examples"

    private void cellsOfAnExample() {
        b.says("Examples", "Each drawer has an example: a cell for each column");
        ExampleDrawers x = new ExampleDrawers();
        for (int many = 1; many <= 4; many++) {
            x.columns(0, many);
            x.columns(1, many);
            for (int column = 0; column < many; column++) {
                x.cell(0, column, 3, 10 + column, 0);
                x.cell(1, column, 4, 20 + column, 0);
            }
            for (int column = 0; column < 4; column++) {
                boolean there = column < many;
                b.is("kind in 0", x.cellOf(0, column, 0), there ? 3 : INVALID);
                b.is("kind in 1", x.cellOf(1, column, 0), there ? 4 : INVALID);
                b.is("a in 0", x.cellOf(0, column, 1), there ? 10 + column : INVALID);
                b.is("a in 1", x.cellOf(1, column, 1), there ? 20 + column : INVALID);
            }
            b.is("cells of other kinds", x.count(5), 2 * many);
        }
        b.says("Examples", "a letter (w, x, y, z, told as 0 to 3)");
        for (int letter = 0; letter < 4; letter++) {
            x = new ExampleDrawers();
            x.card(0, 70 + letter, 0, 0, 0);
            x.type("wxyz".charAt(letter));
            x.read(0);
            b.is("the letter's number", x.cellOf(0, 0, 1), letter);
            for (int each = 0; each < 4; each++) {
                b.is("row(0, 20 + " + each + ")", x.row(0, 20 + each),
                        each == letter ? 70 + letter : MISSING);
            }
        }
    }

    private void plainKinds() {
        kind("kind 0 (at first): anything fits, also a blank", 0, new int[][] {{0, 0, 255}});
        kind("kind 1: a blank", 1, new int[][] {{0, 0, 1}});
        kind("kind 2: any value", 2, new int[][] {{0, 0, 254}});
        kind("kind 3: the value a", 3, new int[][] {{0, 0, 2}, {1, 0, 4}, {50, 0, 16},
            {98, 0, 64}, {99, 0, 128}, {2, 0, 0}});
        kind("kind 4: a value other than a", 4, new int[][] {{0, 0, 252}, {1, 0, 250},
            {50, 0, 238}, {98, 0, 190}, {99, 0, 126}, {2, 0, 254}});
        kind("kind 5: a value below a", 5, new int[][] {{0, 0, 0}, {1, 0, 2}, {49, 0, 6},
            {50, 0, 14}, {51, 0, 30}, {98, 0, 62}, {99, 0, 126}});
        kind("kind 6: a value above a", 6, new int[][] {{99, 0, 0}, {98, 0, 128}, {97, 0, 192},
            {51, 0, 192}, {50, 0, 224}, {49, 0, 240}, {1, 0, 248}, {0, 0, 252}});
        kind("kind 7: a value from a to b", 7, new int[][] {{0, 0, 2}, {99, 99, 128},
            {0, 99, 254}, {50, 50, 16}, {49, 51, 56}, {2, 48, 0}, {1, 98, 124}, {0, 98, 126},
            {1, 99, 252}, {52, 97, 0}});
        kind("kind 8: a value, which a letter stands for", 8, new int[][] {{0, 0, 254},
            {3, 0, 254}});
    }

    /** Each row: a, b, and the set of those cards that fit. */
    private void kind(String words, int kind, int[][] due) {
        b.says("Examples", words);
        for (int drawer = 0; drawer < 2; drawer++) {
            ExampleDrawers x = new ExampleDrawers();
            x.card(1 - drawer, -1, -1, -1, -1);
            for (int value : EDGES) {
                x.card(drawer, 0, value, -1, -1);
            }
            x.both(1);
            if (kind == 0) {
                b.is("at first", x.cards(drawer), 255);
            }
            for (int[] each : due) {
                x.cell(drawer, 1, kind, each[0], each[1]);
                b.is("cards that fit " + each[0] + ", " + each[1], x.cards(drawer), each[2]);
            }
        }
    }

    private void letterKinds() {
        b.says("Examples", "kind 9: a value below that for which a letter stands");
        compared(9, 50, 1 + 2 + 4);
        compared(9, 1, 1);
        compared(9, 0, 0);
        compared(9, 99, 1 + 2 + 4 + 8 + 16 + 32);
        b.says("Examples", "kind 10: a value above it");
        compared(10, 50, 16 + 32 + 64);
        compared(10, 98, 64);
        compared(10, 99, 0);
        compared(10, 0, 2 + 4 + 8 + 16 + 32 + 64);
    }

    /** A cell ahead of the one that tells the letter, and one behind it; blanks never fit. */
    private void compared(int kind, int told, int due) {
        for (int letter = 0; letter < 4; letter++) {
            for (int teller = 0; teller < 2; teller++) {
                ExampleDrawers x = new ExampleDrawers();
                for (int i = 1; i < EDGES.length; i++) {
                    x.card(0, teller == 0 ? told : EDGES[i], teller == 0 ? EDGES[i] : told, 0, 0);
                }
                x.card(0, teller == 0 ? told : -1, teller == 0 ? -1 : told, 0, 0);
                x.cell(0, teller, 8, letter, 0);
                x.cell(0, 1 - teller, kind, letter, 0);
                b.is("cards that fit, told " + told, x.cards(0), due);
            }
        }
    }

    private void whoTellsALetter() {
        b.says("Examples", "What a letter stands for is told by the first cell of kind 8 with it, "
                + "the drawer 0 ahead of the drawer 1, columns from 0 on");
        for (int first = 0; first < 8; first++) {
            for (int second = first + 1; second < 8; second++) {
                for (int above = 0; above < 8; above++) {
                    if (above != first && above != second) {
                        toldByTheFirst(first, second, above);
                    }
                }
            }
        }
    }

    private void toldByTheFirst(int first, int second, int above) {
        String places = first + ", " + second + ", " + above;
        ExampleDrawers x = toldTwice(first, 5, second, 9, above);
        b.is("7 is above 5, told at " + places, x.why(0, 0), second);
        x = toldTwice(first, 9, second, 5, above);
        b.is("7 is not above 9, told at " + places, x.why(0, 0), Math.min(above, second));
        x = toldTwice(first, 6, second, 6, above);
        b.is("7 is above 6, told at " + places, x.why(0, 0), MISSING);
        b.is("what the letter stands for", x.row(0, 22), 6);
    }

    /** Two cells of kind 8 with the letter y, and one of kind 10 that looks at a 7. */
    private static ExampleDrawers toldTwice(int first, int one, int second, int two, int above) {
        int[] values = new int[8];
        values[first] = one;
        values[second] = two;
        values[above] = 7;
        ExampleDrawers x = pairOf(values);
        x.cell(first / 4, first % 4, 8, 2, 0);
        x.cell(second / 4, second % 4, 8, 2, 0);
        x.cell(above / 4, above % 4, 10, 2, 0);
        return x;
    }

    /** One card with four columns in each drawer, and a question of both. */
    private static ExampleDrawers pairOf(int[] v) {
        ExampleDrawers x = new ExampleDrawers();
        x.columns(0, 4);
        x.columns(1, 4);
        x.both(1);
        x.card(0, v[0], v[1], v[2], v[3]);
        x.card(1, v[4], v[5], v[6], v[7]);
        return x;
    }

    private void otherCellsOfALetter() {
        b.says("Examples", "each other cell of kind 8 with it (of both drawers) wants the same "
                + "value");
        int[][] pairs = {{0, 0, 1}, {99, 99, 1}, {0, 1, 0}, {99, 98, 0}, {0, -1, 0}, {-1, 0, 0},
            {-1, -1, 0}};
        for (int[] pair : pairs) {
            for (int first = 0; first < 8; first++) {
                for (int second = first + 1; second < 8; second++) {
                    sameValue(first, pair[0], second, pair[1], pair[2]);
                }
            }
        }
        threeCellsOfALetter();
        twoLetters();
    }

    private void sameValue(int first, int one, int second, int two, int fits) {
        int[] values = {50, 51, 52, 53, 54, 55, 56, 57};
        values[first] = one;
        values[second] = two;
        ExampleDrawers x = pairOf(values);
        x.cell(first / 4, first % 4, 8, 1, 0);
        x.cell(second / 4, second % 4, 8, 1, 0);
        String places = one + " at " + first + ", " + two + " at " + second;
        b.is("many() with " + places, x.many(), fits);
        b.is("why(0, 0) with " + places, x.why(0, 0),
                fits == 1 ? MISSING : one == -1 ? first : second);
    }

    private void threeCellsOfALetter() {
        int[][] cards = {{4, 4, 4, 1}, {4, 4, 5, 0}, {4, 5, 4, 0}, {5, 4, 4, 0}, {4, 5, 5, 0}};
        for (int[] card : cards) {
            ExampleDrawers x = new ExampleDrawers();
            x.card(0, card[0], card[1], card[2], 0);
            for (int column = 0; column < 3; column++) {
                x.cell(0, column, 8, 0, 0);
            }
            b.is("three cells with w", x.many(), card[3]);
        }
    }

    private void twoLetters() {
        ExampleDrawers x = new ExampleDrawers();
        x.card(0, 4, 4, 5, 0);
        x.card(0, 4, 5, 4, 0);
        x.cell(0, 0, 8, 0, 0);
        x.cell(0, 1, 8, 3, 0);
        x.cell(0, 2, 8, 0, 0);
        b.is("the other letter may stand for another value, or for the same", x.cards(0), 2);
        x.cell(0, 2, 8, 3, 0);
        b.is("z alike in two columns", x.cards(0), 0);
        x.put(0, 0, 2, 4);
        b.is("both letters stand for 4", x.cards(0), 1);
    }

    private void letterOfNoCell() {
        b.says("Examples", "A cell of kind 9 or 10 with a letter that no cell of kind 8 has");
        for (int kind = 9; kind <= 10; kind++) {
            for (int letter = 0; letter < 4; letter++) {
                ExampleDrawers x = Bounds.after(Scenes::few);
                x.cell(0, 2, kind, letter, 0);
                b.is("many()", x.many(), 0);
                b.is("why(0, 0)", x.why(0, 0), 2);
                x.cell(0, 0, 8, (letter + 1) % 4, 0);
                b.is("many() with another letter", x.many(), 0);
                x.cell(0, 0, 19 - kind, letter, 0);
                b.is("many() with a cell of kind 9 and one of kind 10", x.many(), 0);
                b.is("why(1, 0)", x.why(1, 0), 0);
                x.cell(0, 0, 3, letter, 0);
                b.is("a number is no letter", x.many(), 0);
            }
        }
        letterToldByABlank();
    }

    private void letterToldByABlank() {
        b.says("Examples", "or that is told by a blank, is fitted by nothing");
        int[] values = {-1, 0, 99};
        for (int kind = 9; kind <= 10; kind++) {
            for (int value : values) {
                ExampleDrawers x = new ExampleDrawers();
                x.card(0, value, -1, 5, 0);
                x.cell(0, 0, kind, 1, 0);
                x.cell(0, 1, 8, 1, 0);
                b.is("many()", x.many(), 0);
                b.is("the cell ahead of it is not fitted", x.why(0, 0), 0);
                x.cell(0, 2, 8, 1, 0);
                b.is("the second cell of the letter does not tell it", x.why(0, 0), 0);
                x.cell(0, 1, 0, 0, 0);
                int fits = kind == 9 ? value == 0 ? 1 : 0 : value == 99 ? 1 : 0;
                b.is("told by the value 5", x.many(), fits);
            }
        }
    }

    private void lettersOfTheDrawer1() {
        b.says("Examples", "(Cells of the drawer 1 count for letters only if the question is of "
                + "both drawers.)");
        ExampleDrawers x = Bounds.after(Scenes::few);
        x.cell(0, 0, 9, 2, 0);
        x.cell(1, 0, 8, 2, 0);
        b.is("of the drawer 0 alone", x.many(), 0);
        b.is("why(0, 0)", x.why(0, 0), 0);
        x.both(1);
        b.is("of both", x.many(), 2);
        b.is("why(0, 0)", x.why(0, 0), MISSING);
        b.is("row(0, 22)", x.row(0, 22), 99);
        x.both(0);
        b.is("of the drawer 0 alone again", x.many(), 0);
        x.cell(0, 0, 8, 2, 0);
        x.cell(1, 0, 8, 2, 0);
        b.is("a cell of the drawer 1 wants nothing", x.many(), 2);
        x.both(1);
        b.is("it wants the same value", x.many(), 0);
    }

    // ---- "What fits"

    private void rowsThatFit() {
        b.says("What fits", "The question is of both drawers, if it is told so, otherwise (at "
                + "first) of the drawer 0 alone");
        ExampleDrawers x = Bounds.after(Scenes::few);
        x.card(1, 1, 1, 1, 1);
        b.is("count(4) at first", x.count(4), 0);
        b.is("many() at first", x.many(), 2);
        x.both(1);
        b.is("many() of both", x.many(), 4);
        x.both(0);
        b.is("many() of the drawer 0 alone", x.many(), 2);
        b.says("What fits", "then cells of the drawer 1 are no part of it");
        x.cell(1, 0, 3, 50, 0);
        b.is("many() with a cell that no card fits", x.many(), 2);
        b.is("why(0, 0)", x.why(0, 0), MISSING);
        b.is("tightest(0)", x.tightest(0), MISSING);
        x.both(1);
        b.is("many() of both", x.many(), 0);
        rowsArePairs();
        allCellsAreFitted();
    }

    private void rowsArePairs() {
        b.says("What fits", "A row is a card of the drawer 0, or a pair of one of each drawer");
        int[] sizes = {0, 1, 5, 12};
        for (int firsts : sizes) {
            for (int seconds : sizes) {
                ExampleDrawers x = new ExampleDrawers();
                for (int card = 0; card < firsts; card++) {
                    x.card(0, 1, 2, 3, 4);
                }
                for (int card = 0; card < seconds; card++) {
                    x.card(1, 1, 2, 3, 4);
                }
                b.is("cards alone", x.many(), firsts);
                x.both(1);
                b.is("pairs", x.many(), firsts * seconds);
                b.is("the last pair", x.row(firsts * seconds - 1, 0),
                        firsts * seconds == 0 ? INVALID : firsts - 1);
                b.is("one more", x.row(firsts * seconds, 0), MISSING);
            }
        }
    }

    private void allCellsAreFitted() {
        b.says("What fits", "A row fits if all cells (of the drawers asked) are fitted");
        for (int wrong = 0; wrong < 8; wrong++) {
            ExampleDrawers x = Bounds.after(Scenes::full);
            for (int place = 0; place < 8; place++) {
                int value = x.valueOf(place / 4, 5, place % 4);
                x.cell(place / 4, place % 4, 3, value, 0);
            }
            b.is("one pair fits all cells", x.many(), 1);
            b.is("its first card", x.row(0, 0), 5);
            b.is("its second card", x.row(0, 1), 5);
            x.cell(wrong / 4, wrong % 4, 3, 33, 0);
            b.is("none fits with the cell " + wrong, x.many(), 0);
            x.both(0);
            b.is("the cell is asked or not", x.many(), wrong < 4 ? 0 : 1);
        }
    }

    private void plainOrder() {
        b.says("What fits", "Rows that fit are in the order of the card of the drawer 0, then of "
                + "that of the drawer 1, if no order is told");
        ExampleDrawers x = Bounds.after(Scenes::full);
        for (int index = 0; index < 144; index++) {
            b.is("row(" + index + ", 0)", x.row(index, 0), index / 12);
            b.is("row(" + index + ", 1)", x.row(index, 1), index % 12);
        }
        b.is("row(144, 0)", x.row(144, 0), MISSING);
        x.both(0);
        for (int index = 0; index < 12; index++) {
            b.is("row(" + index + ", 0)", x.row(index, 0), index);
        }
        b.is("row(12, 0)", x.row(12, 0), MISSING);
    }

    private void orders() {
        b.says("What fits", "There are at most two orders, each by a column (0 to 3 for those of "
                + "the drawer 0, 4 to 7 for 4 plus those of the drawer 1), upwards or downwards");
        for (int column = 0; column < 8; column++) {
            ExampleDrawers x = apart(column);
            for (int which = 0; which < 2; which++) {
                x.order(which, column, 0);
                sequence(x, column, "upwards", 1, 2, 3);
                x.order(which, column, 1);
                sequence(x, column, "downwards", 3, 2, 1);
                x.order(which, -1, 1);
                sequence(x, column, "none", 2, 3, 1);
            }
        }
        firstOrderGoesAhead();
        blanksOfAnOrder();
        alikeByOrders();
        ordersThatDoNothing();
    }

    /** Three cards that are apart in one column alone, and one card of the other drawer. */
    private static ExampleDrawers apart(int column) {
        int[] values = {2, 3, 1};
        ExampleDrawers x = new ExampleDrawers();
        x.columns(0, 4);
        x.columns(1, 4);
        x.both(1);
        x.card(column < 4 ? 1 : 0, 7, 7, 7, 7);
        for (int value : values) {
            int[] v = {7, 7, 7, 7};
            v[column % 4] = value;
            x.card(column / 4, v[0], v[1], v[2], v[3]);
        }
        return x;
    }

    private void sequence(ExampleDrawers x, int column, String name, int... due) {
        for (int index = 0; index < due.length; index++) {
            b.is(name + " by " + column + ": row(" + index + ", ..)", x.row(index, 10 + column),
                    due[index]);
        }
        b.is(name + ": one more", x.row(due.length, 10 + column), MISSING);
    }

    private void firstOrderGoesAhead() {
        b.says("What fits", "the first one goes ahead");
        ExampleDrawers x = new ExampleDrawers();
        x.card(0, 1, 5, 0, 0);
        x.card(0, 2, 4, 0, 0);
        x.card(0, 1, 4, 0, 0);
        x.card(0, 2, 5, 0, 0);
        x.order(1, 1, 0);
        cardsInOrder(x, "the second alone", 1, 2, 0, 3);
        x.order(0, 0, 0);
        cardsInOrder(x, "both upwards", 2, 0, 1, 3);
        x.order(0, 0, 1);
        cardsInOrder(x, "down, up", 1, 3, 2, 0);
        x.order(1, 1, 1);
        cardsInOrder(x, "down, down", 3, 1, 0, 2);
        x.order(0, 1, 1);
        x.order(1, 0, 0);
        cardsInOrder(x, "the other column ahead", 0, 3, 2, 1);
        x.order(0, 0, 0);
        x.order(1, 0, 1);
        cardsInOrder(x, "the same column twice: the second does nothing", 0, 2, 1, 3);
        x.order(0, -1, 0);
        cardsInOrder(x, "without the first", 1, 3, 0, 2);
    }

    private void cardsInOrder(ExampleDrawers x, String name, int... due) {
        for (int index = 0; index < due.length; index++) {
            b.is(name + ": row(" + index + ", 0)", x.row(index, 0), due[index]);
        }
        b.is(name + ": one more", x.row(due.length, 0), MISSING);
    }

    private void blanksOfAnOrder() {
        b.says("What fits", "blanks come first upwards, last downwards");
        ExampleDrawers x = new ExampleDrawers();
        int[] values = {0, -1, 99, -1, 0};
        for (int value : values) {
            x.card(0, 1, value, 0, 0);
        }
        x.order(0, 1, 0);
        cardsInOrder(x, "upwards", 1, 3, 0, 4, 2);
        x.order(0, 1, 1);
        cardsInOrder(x, "downwards", 2, 0, 4, 1, 3);
        x.order(1, 1, 1);
        x.order(0, 0, 1);
        cardsInOrder(x, "downwards by the second", 2, 0, 4, 1, 3);
        x.order(1, 1, 0);
        cardsInOrder(x, "upwards by the second", 1, 3, 0, 4, 2);
    }

    private void alikeByOrders() {
        b.says("What fits", "rows that are alike by them stay in their order");
        ExampleDrawers x = Bounds.after(Scenes::full);
        for (int down = 0; down < 2; down++) {
            x.order(0, 2, down);
            for (int index = 0; index < 144; index += 13) {
                b.is("all alike by the column 2", 12 * x.row(index, 0) + x.row(index, 1), index);
            }
        }
        x.order(0, 4, 1);
        // By 92, 91 and 90 in turn; within them by the first card, then by the second.
        for (int index = 0; index < 144; index += 7) {
            int first = index % 48 / 4;
            int second = 3 * (index % 4) + 2 - index / 48;
            b.is("row(" + index + ", 0)", x.row(index, 0), first);
            b.is("row(" + index + ", 1)", x.row(index, 1), second);
        }
        ExampleDrawers blanks = new ExampleDrawers();
        for (int card = 0; card < 4; card++) {
            blanks.card(0, -1, card, 0, 0);
        }
        blanks.order(0, 0, 1);
        cardsInOrder(blanks, "blanks downwards", 0, 1, 2, 3);
        blanks.order(0, 0, 0);
        cardsInOrder(blanks, "blanks upwards", 0, 1, 2, 3);
    }

    private void ordersThatDoNothing() {
        b.says("What fits", "An order by a column that is not asked, or that there is not, does "
                + "nothing");
        for (int column = 4; column < 8; column++) {
            ExampleDrawers x = Bounds.after(Scenes::full);
            x.both(0);
            x.order(0, column, 1);
            b.is("the first row", x.row(0, 0), 0);
            b.is("the last row", x.row(11, 0), 11);
            x.order(1, 0, 1);
            b.is("the second order goes on", x.row(0, 0), 11);
        }
        for (int many = 1; many <= 3; many++) {
            for (int column = many; column < 4; column++) {
                columnThatThereIsNot(many, column);
            }
        }
    }

    private void columnThatThereIsNot(int many, int column) {
        ExampleDrawers x = new ExampleDrawers();
        x.columns(0, many);
        x.columns(1, many);
        x.both(1);
        x.order(0, column, 1);
        x.order(1, 4 + column, 1);
        for (int card = 0; card < 2; card++) {
            x.card(0, 5, card, card, card);
            x.card(1, 5, card, card, card);
        }
        x.cell(0, 0, 3, 5, 0);
        for (int index = 0; index < 4; index++) {
            b.is("row(" + index + ", 0)", x.row(index, 0), index / 2);
            b.is("row(" + index + ", 1)", x.row(index, 1), index % 2);
        }
    }

    private void rowsThatAreAlike() {
        b.says("What fits", "Shown are the columns of a set (bits 0 to 7 likewise; all at first)");
        for (int column = 0; column < 8; column++) {
            ExampleDrawers x = apart(column);
            b.is("unlike() at first", x.unlike(), 3);
            for (int bit = 0; bit < 8; bit++) {
                b.is("show of the column " + bit, x.show(1 << bit), bit == column ? 3 : 1);
                b.is("show of all but " + bit, x.show(255 - (1 << bit)), bit == column ? 1 : 3);
            }
        }
        b.says("What fits", "Two rows are alike if they have the same in all columns that are "
                + "shown, and that are asked, and that there are");
        ExampleDrawers x = Bounds.after(Scenes::asked);
        x.clear(0);
        x.clear(1);
        b.is("show(255)", x.show(255), 6);
        b.is("show(1)", x.show(1), 2);
        b.is("show(2)", x.show(2), 2);
        b.is("show(3)", x.show(3), 3);
        b.is("show(16 + 1)", x.show(17), 4);
        b.is("show(12 + 1), two columns that there are not", x.show(13), 2);
        x.both(0);
        b.is("show(240 + 1), four columns that are not asked", x.show(241), 2);
        blanksAreAlike();
        justTheFirstIsUnlike();
    }

    private void blanksAreAlike() {
        b.says("What fits", "(blanks are alike; without such columns all rows are alike)");
        ExampleDrawers x = new ExampleDrawers();
        x.columns(0, 1);
        x.card(0, -1, 0, 0, 0);
        x.card(0, -1, 1, 1, 1);
        b.is("two blanks", x.unlike(), 1);
        x.card(0, 0, 0, 0, 0);
        b.is("a blank is not 0", x.unlike(), 2);
        x.card(0, 99, 0, 0, 0);
        b.is("nor 99", x.unlike(), 3);
        b.is("no columns", x.show(0), 1);
        b.is("no columns that there are", x.show(14), 1);
        b.is("no columns that are asked", x.show(240), 1);
        x.cell(0, 0, 3, 50, 0);
        b.is("no columns, no rows", x.unlike(), 0);
        x.columns(0, 2);
        b.is("no columns, no cards", x.unlike(), 0);
    }

    private void justTheFirstIsUnlike() {
        b.says("What fits", "Of rows that are alike just the first one is counted as unlike");
        ExampleDrawers x = new ExampleDrawers();
        for (int card = 0; card < 12; card++) {
            x.card(0, card % 2, 5, 5, 5);
            x.card(1, 5, card % 3, 5, 5);
        }
        b.is("twelve cards", x.unlike(), 2);
        x.both(1);
        b.is("144 pairs", x.unlike(), 6);
        b.is("by the drawer 0", x.show(1), 2);
        b.is("by the drawer 1", x.show(32), 3);
        b.is("by what is alike", x.show(16 + 2), 1);
        x.show(255);
        x.cell(0, 0, 3, 1, 0);
        b.is("of those that fit", x.unlike(), 3);
    }

    // ---- "Promise 7: cell"

    private void cell() {
        b.says("Promise 7", "Sets a cell of an example");
        b.change("cell(0, 1, 7, 0, 99)", 0, Scenes::asked, x -> x.cell(0, 1, 7, 0, 99));
        b.change("cell(1, 3, 0, 0, 0)", 7, Scenes::asked, x -> x.cell(1, 3, 0, 0, 0));
        b.change("cell(0, 0, 0, 0, 0), the same", 0, Scenes::untouched,
                x -> x.cell(0, 0, 0, 0, 0));
        b.says("Promise 7", "`drawer`: 0 or 1");
        b.range("cell(_, 0, 1, 0, 0)", Scenes::asked, (x, n) -> x.cell(n, 0, 1, 0, 0), 0, 1);
        b.says("Promise 7", "`column`: a column of the drawer");
        b.range("cell(0, _, 1, 0, 0)", Scenes::asked, (x, n) -> x.cell(0, n, 1, 0, 0), 0, 1);
        b.range("cell(1, _, 1, 0, 0)", Scenes::asked, (x, n) -> x.cell(1, n, 1, 0, 0), 0, 3);
        b.range("cell(0, _, 1, 0, 0)", Scenes::untouched, (x, n) -> x.cell(0, n, 1, 0, 0), 0, 2);
        b.says("Promise 7", "`kind`: 0 to 10");
        b.range("cell(0, 0, _, 0, 0)", Scenes::asked, (x, n) -> x.cell(0, 0, n, 0, 0), 0, 10);
        firstNumbers();
        secondNumbers();
        cellReturns();
        b.says("Promise 7", "INVALID_ARGUMENT if an argument is out of range");
        b.refused("cell(2, 4, 11, 100, 100)", INVALID, Scenes::asked,
                x -> x.cell(2, 4, 11, 100, 100));
        b.refused("cell(0, 2, 3, 5, 0), no such column", INVALID, Scenes::asked,
                x -> x.cell(0, 2, 3, 5, 0));
    }

    private void firstNumbers() {
        b.says("Promise 7", "`a`: kinds 3 to 7: 0 to 99");
        for (int kind = 3; kind <= 7; kind++) {
            int k = kind;
            int second = kind == 7 ? 99 : 0;
            b.range("cell(0, 1, " + k + ", _, b)", Scenes::asked,
                    (x, n) -> x.cell(0, 1, k, n, second), 0, 99);
            keeps(kind, 0, second);
            keeps(kind, 99, second);
        }
        b.says("Promise 7", "kinds 8 to 10: 0 to 3, a letter");
        for (int kind = 8; kind <= 10; kind++) {
            int k = kind;
            b.range("cell(1, 1, " + k + ", _, 0)", Scenes::asked,
                    (x, n) -> x.cell(1, 1, k, n, 0), 0, 3);
            keeps(kind, 0, 0);
            keeps(kind, 3, 0);
        }
        b.says("Promise 7", "otherwise 0");
        for (int kind = 0; kind <= 2; kind++) {
            int k = kind;
            b.range("cell(0, 0, " + k + ", _, 0)", Scenes::asked,
                    (x, n) -> x.cell(0, 0, k, n, 0), 0, 0);
            keeps(kind, 0, 0);
        }
    }

    private void secondNumbers() {
        b.says("Promise 7", "`b`: kind 7: a to 99");
        b.range("cell(0, 1, 7, 0, _)", Scenes::asked, (x, n) -> x.cell(0, 1, 7, 0, n), 0, 99);
        b.range("cell(0, 1, 7, 40, _)", Scenes::asked, (x, n) -> x.cell(0, 1, 7, 40, n), 40, 99);
        b.range("cell(1, 3, 7, 99, _)", Scenes::asked, (x, n) -> x.cell(1, 3, 7, 99, n), 99, 99);
        keeps(7, 0, 0);
        keeps(7, 0, 99);
        keeps(7, 40, 41);
        b.says("Promise 7", "otherwise 0");
        for (int kind = 0; kind <= 10; kind++) {
            int k = kind;
            if (kind != 7) {
                b.range("cell(0, 0, " + k + ", 0, _)", Scenes::few,
                        (x, n) -> x.cell(0, 0, k, 0, n), 0, 0);
            }
        }
        b.refused("cell(0, 0, 6, 40, 50)", INVALID, Scenes::few, x -> x.cell(0, 0, 6, 40, 50));
        b.refused("cell(0, 0, 8, 1, 1)", INVALID, Scenes::few, x -> x.cell(0, 0, 8, 1, 1));
    }

    private void keeps(int kind, int first, int second) {
        ExampleDrawers x = Bounds.after(Scenes::asked);
        x.cell(1, 2, 7, 50, 60);
        b.is("cell", x.cell(1, 2, kind, first, second), 7);
        b.is("its kind", x.cellOf(1, 2, 0), kind);
        b.is("its a", x.cellOf(1, 2, 1), first);
        b.is("its b", x.cellOf(1, 2, 2), second);
    }

    private void cellReturns() {
        b.says("Promise 7", "Returns which kind it was of");
        ExampleDrawers x = new ExampleDrawers();
        for (int kind = 0; kind <= 10; kind++) {
            b.is("kind before", x.cell(1, 2, kind, 0, 0), Math.max(kind - 1, 0));
        }
        b.is("kind before", x.cell(1, 2, 10, 3, 0), 10);
        b.is("kind before in another drawer", x.cell(0, 2, 10, 3, 0), 0);
        b.is("kind before in another column", x.cell(1, 1, 10, 3, 0), 0);
    }

    // ---- "Promise 8: clear"

    private void clear() {
        b.says("Promise 8", "Makes all cells of an example those of kind 0");
        for (int drawer = 0; drawer < 2; drawer++) {
            ExampleDrawers x = fourCells();
            b.is("clear", x.clear(drawer), 4);
            for (int column = 0; column < 4; column++) {
                for (int what = 0; what < 3; what++) {
                    b.is("a cell of it", x.cellOf(drawer, column, what), 0);
                }
                b.is("a cell of the other", x.cellOf(1 - drawer, column, 0), 7);
            }
        }
        b.says("Promise 8", "`drawer`: 0 or 1");
        b.range("clear(_)", Scenes::asked, ExampleDrawers::clear, 0, 1);
        b.says("Promise 8", "Returns how many were of other kinds");
        b.change("clear(1) of none", 0, Scenes::untouched, x -> x.clear(1));
        b.change("clear(0) of one", 1, Scenes::asked, x -> x.clear(0));
        b.change("clear(1) of two", 2, Scenes::asked, x -> x.clear(1));
        ExampleDrawers x = fourCells();
        b.is("clear(1) of four", x.clear(1), 4);
        b.is("clear(1) again", x.clear(1), 0);
        b.says("Promise 8", "INVALID_ARGUMENT if drawer is out of range");
        b.refused("clear(2)", INVALID, Scenes::full, y -> y.clear(2));
        b.refused("clear(-1)", INVALID, Scenes::few, y -> y.clear(-1));
    }

    private static ExampleDrawers fourCells() {
        ExampleDrawers x = new ExampleDrawers();
        x.columns(0, 4);
        x.columns(1, 4);
        for (int place = 0; place < 8; place++) {
            x.cell(place / 4, place % 4, 7, 40 + place, 60 + place);
        }
        return x;
    }

    // ---- "Promise 9: both"

    private void both() {
        b.says("Promise 9", "Tells whether the question is of both drawers");
        b.range("both(_)", Scenes::asked, ExampleDrawers::both, 0, 1);
        b.says("Promise 9", "`is`: 1: of both");
        ExampleDrawers x = Bounds.after(Scenes::few);
        x.both(1);
        b.is("count(4)", x.count(4), 1);
        b.is("row(0, 1)", x.row(0, 1), 0);
        b.is("cards(1)", x.cards(1), 1);
        b.says("Promise 9", "0: of the drawer 0 alone");
        x.both(0);
        b.is("count(4)", x.count(4), 0);
        b.is("row(0, 1)", x.row(0, 1), MISSING);
        b.is("cards(1)", x.cards(1), Bounds.IMPOSSIBLE);
        b.says("Promise 9", "Returns what it was");
        b.change("both(0) at first", 0, Scenes::untouched, y -> y.both(0));
        b.change("both(1) at first", 0, Scenes::few, y -> y.both(1));
        b.change("both(1) of both", 1, Scenes::asked, y -> y.both(1));
        b.change("both(0) of both", 1, Scenes::full, y -> y.both(0));
        b.says("Promise 9", "INVALID_ARGUMENT if is is out of range");
        b.refused("both(2)", INVALID, Scenes::few, y -> y.both(2));
        b.refused("both(-1)", INVALID, Scenes::full, y -> y.both(-1));
    }

    // ---- "Promise 10: order"

    private void order() {
        b.says("Promise 10", "Sets an order");
        b.change("order(1, 3, 1)", 24, x -> {
            Scenes.full(x);
            x.cell(1, 1, 5, 2, 0);
        }, x -> x.order(1, 3, 1));
        b.says("Promise 10", "`which`: 0: the first one");
        b.range("order(_, 0, 1)", Scenes::asked, (x, n) -> x.order(n, 0, 1), 0, 1);
        ordersKept(0);
        b.says("Promise 10", "1: the second one");
        ordersKept(1);
        b.says("Promise 10", "`column`: 0 to 7, -1: none");
        b.range("order(0, _, 0)", Scenes::asked, (x, n) -> x.order(0, n, 0), -1, 7);
        b.range("order(1, _, 1)", Scenes::few, (x, n) -> x.order(1, n, 1), -1, 7);
        b.says("Promise 10", "`down`: 1: downwards");
        b.range("order(0, 0, _)", Scenes::asked, (x, n) -> x.order(0, 0, n), 0, 1);
        b.range("order(1, -1, _)", Scenes::asked, (x, n) -> x.order(1, -1, n), 0, 1);
        ExampleDrawers x = apart(1);
        x.order(0, 1, 1);
        sequence(x, 1, "downwards", 3, 2, 1);
        b.says("Promise 10", "0: upwards");
        x.order(0, 1, 0);
        sequence(x, 1, "upwards", 1, 2, 3);
        b.says("Promise 10", "Returns how many rows fit");
        b.change("order of none", 0, Scenes::untouched, y -> y.order(0, 0, 0));
        b.change("order of two cards", 2, Scenes::few, y -> y.order(1, 7, 1));
        b.change("order of three pairs", 3, Scenes::asked, y -> y.order(0, -1, 0));
        b.change("order of 144 pairs", 144, Scenes::full, y -> y.order(1, 3, 1));
        b.says("Promise 10", "INVALID_ARGUMENT if an argument is out of range");
        b.refused("order(2, 8, 2)", INVALID, Scenes::asked, y -> y.order(2, 8, 2));
        b.refused("order(-1, -2, -1)", INVALID, Scenes::full, y -> y.order(-1, -2, -1));
    }

    private void ordersKept(int which) {
        ExampleDrawers x = Bounds.after(Scenes::asked);
        int other = x.count(11 - which);
        int otherDown = x.count(13 - which);
        for (int column = -1; column <= 7; column++) {
            for (int down = 0; down < 2; down++) {
                x.order(which, column, down);
                b.is("its column", x.count(10 + which), column);
                b.is("its direction", x.count(12 + which), down);
                b.is("the other's column", x.count(11 - which), other);
                b.is("the other's direction", x.count(13 - which), otherDown);
            }
        }
    }

    // ---- "Promise 11: show"

    private void show() {
        b.says("Promise 11", "Sets the columns that are shown");
        for (int set = 0; set < 256; set++) {
            ExampleDrawers x = Bounds.after(Scenes::few);
            x.show(set);
            b.is("count(6)", x.count(6), set);
        }
        b.says("Promise 11", "`set`: 0 to 255");
        b.range("show(_)", Scenes::asked, ExampleDrawers::show, 0, 255);
        b.says("Promise 11", "Returns how many unlike rows there are then");
        b.change("show(255) of none", 0, Scenes::untouched, x -> x.show(255));
        b.change("show(0) of none", 0, Scenes::untouched, x -> x.show(0));
        b.change("show(0) of two", 1, Scenes::few, x -> x.show(0));
        b.change("show(1) of two", 1, Scenes::few, x -> x.show(1));
        b.change("show(2) of two", 2, Scenes::few, x -> x.show(2));
        b.change("show(255) of 144", 144, Scenes::full, x -> x.show(255));
        b.change("show(128 + 1) of 144", 144, Scenes::full, x -> x.show(129));
        b.says("Promise 11", "INVALID_ARGUMENT if set is out of range");
        b.refused("show(256)", INVALID, Scenes::full, x -> x.show(256));
        b.refused("show(-1)", INVALID, Scenes::few, x -> x.show(-1));
    }

    // ---- "Promise 12: cellOf"

    private void cellOf() {
        b.says("Promise 12", "Returns something of a cell of an example");
        b.noChange("cellOf(1, 3, 2)", 99, Scenes::asked, x -> x.cellOf(1, 3, 2));
        b.says("Promise 12", "`drawer`: 0 or 1");
        b.range("cellOf(_, 0, 0)", Scenes::asked, (x, n) -> x.cellOf(n, 0, 0), 0, 1);
        b.says("Promise 12", "`column`: a column of the drawer");
        b.range("cellOf(0, _, 1)", Scenes::asked, (x, n) -> x.cellOf(0, n, 1), 0, 1);
        b.range("cellOf(1, _, 3)", Scenes::asked, (x, n) -> x.cellOf(1, n, 3), 0, 3);
        ExampleDrawers x = Bounds.after(Scenes::asked);
        b.range("cellOf(1, 3, _)", Scenes::asked, (y, n) -> y.cellOf(1, 3, n), 0, 3);
        b.says("Promise 12", "`what`: 0: its kind");
        b.is("cellOf(1, 3, 0)", x.cellOf(1, 3, 0), 7);
        b.is("cellOf(1, 2, 0)", x.cellOf(1, 2, 0), 0);
        b.says("Promise 12", "1: a");
        b.is("cellOf(1, 3, 1)", x.cellOf(1, 3, 1), 7);
        b.is("cellOf(1, 0, 1), a letter", x.cellOf(1, 0, 1), 1);
        b.is("cellOf(1, 2, 1)", x.cellOf(1, 2, 1), 0);
        b.says("Promise 12", "2: b");
        b.is("cellOf(1, 3, 2)", x.cellOf(1, 3, 2), 99);
        b.is("cellOf(1, 0, 2)", x.cellOf(1, 0, 2), 0);
        fitByThemselves();
        b.says("Promise 12", "Returns the number");
        b.is("cellOf(0, 0, 0)", x.cellOf(0, 0, 0), 8);
        b.says("Promise 12", "INVALID_ARGUMENT if an argument is out of range");
        b.refused("cellOf(2, 4, 4)", INVALID, Scenes::full, y -> y.cellOf(2, 4, 4));
        b.refused("cellOf(0, 3, 0) of three columns", INVALID, Scenes::untouched,
                y -> y.cellOf(0, 3, 0));
    }

    private void fitByThemselves() {
        b.says("Promise 12", "3: how many cards of the drawer fit it by themselves (kinds 8: all "
                + "that have a value; 9 and 10: 0)");
        int[][] due = {{0, 0, 0, 8}, {1, 0, 0, 1}, {2, 0, 0, 7}, {3, 99, 0, 1}, {3, 2, 0, 0},
            {4, 0, 0, 6}, {4, 2, 0, 7}, {5, 0, 0, 0}, {5, 99, 0, 6}, {6, 99, 0, 0}, {6, 0, 0, 6},
            {7, 0, 99, 7}, {7, 50, 50, 1}, {7, 2, 48, 0}, {8, 0, 0, 7}, {8, 3, 0, 7},
            {9, 0, 0, 0}, {10, 3, 0, 0}, {9, 3, 0, 0}, {10, 0, 0, 0}};
        for (int drawer = 0; drawer < 2; drawer++) {
            ExampleDrawers x = new ExampleDrawers();
            b.is("no cards", x.cellOf(drawer, 1, 3), 0);
            for (int value : EDGES) {
                x.card(drawer, value, value, 0, 0);
            }
            // Other cells and the other drawer are no part of it, nor who tells the letters.
            x.cell(drawer, 0, 8, 0, 0);
            x.cell(drawer, 2, 8, 3, 0);
            x.card(1 - drawer, 1, 1, 1, 1);
            for (int[] each : due) {
                x.cell(drawer, 1, each[0], each[1], each[2]);
                b.is("kind " + each[0] + ", " + each[1], x.cellOf(drawer, 1, 3), each[3]);
            }
        }
        ExampleDrawers full = Bounds.after(Scenes::full);
        b.is("twelve cards", full.cellOf(1, 3, 3), 12);
        full.cell(0, 3, 2, 0, 0);
        b.is("eleven cards with a value", full.cellOf(0, 3, 3), 11);
    }
}
