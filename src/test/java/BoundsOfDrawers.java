import java.lang.reflect.Method;
import java.lang.reflect.Modifier;

/** "Terms", "Drawers and cards", and the promises 1 to 6. */
final class BoundsOfDrawers {
    private static final int INVALID = Bounds.INVALID;
    private final Bounds b;

    BoundsOfDrawers(Bounds bounds) {
        b = bounds;
    }

    void all() {
        terms();
        drawersAndCards();
        newObject();
        columns();
        card();
        put();
        drop();
        valueOf();
    }

    private void terms() {
        wholeNumbers();
        setsAreBits();
    }

    private void wholeNumbers() {
        b.says("Terms", "All numbers are whole numbers");
        for (Method method : ExampleDrawers.class.getDeclaredMethods()) {
            if (Modifier.isPublic(method.getModifiers())) {
                b.holds(method + " answers an int", method.getReturnType() == int.class);
                for (Class<?> type : method.getParameterTypes()) {
                    b.holds(method + " takes an int", type == int.class);
                }
            }
        }
    }

    private void setsAreBits() {
        b.says("Terms", "Sets are told as bits: bit k is for number k");
        ExampleDrawers x = Bounds.after(Scenes::full);
        for (int card = 0; card < 12; card++) {
            x.cell(0, 0, 3, card, 0);
            b.is("cards(0) of the card " + card, x.cards(0), 1 << card);
            x.cell(1, 2, 3, card, 0);
            b.is("cards(1) of the card " + card, x.cards(1), 1 << card);
            x.cell(1, 2, 0, 0, 0);
        }
        for (int column = 0; column < 8; column++) {
            x.show(1 << column);
            b.is("count(6) of the column " + column, x.count(6), 1 << column);
        }
    }

    // ---- "Drawers and cards"

    private void drawersAndCards() {
        drawers();
        columnsOfADrawer();
        cardsOfADrawer();
        values();
        numbersBehindADroppedCard();
    }

    private void drawers() {
        b.says("Drawers and cards", "There are the drawers 0 and 1");
        ExampleDrawers x = new ExampleDrawers();
        x.card(0, 1, 2, 3, 0);
        x.card(1, 4, 5, 6, 0);
        b.is("valueOf(0, 0, 0)", x.valueOf(0, 0, 0), 1);
        b.is("valueOf(1, 0, 0)", x.valueOf(1, 0, 0), 4);
        for (int drawer : Bounds.outside(0, 1)) {
            b.is("columns(" + drawer + ", 3)", x.columns(drawer, 3), INVALID);
            b.is("card of " + drawer, x.card(drawer, 1, 2, 3, 4), INVALID);
            b.is("put of " + drawer, x.put(drawer, 0, 0, 1), INVALID);
        }
        for (int drawer : Bounds.outside(0, 1)) {
            b.is("drop of " + drawer, x.drop(drawer, 0), INVALID);
            b.is("valueOf of " + drawer, x.valueOf(drawer, 0, 0), INVALID);
            b.is("cell of " + drawer, x.cell(drawer, 0, 1, 0, 0), INVALID);
            b.is("clear(" + drawer + ")", x.clear(drawer), INVALID);
        }
        x = new ExampleDrawers();
        x.type('*');
        for (int drawer : Bounds.outside(0, 1)) {
            b.is("cellOf of " + drawer, x.cellOf(drawer, 0, 0), INVALID);
            b.is("cards(" + drawer + ")", x.cards(drawer), INVALID);
            b.is("read(" + drawer + ")", x.read(drawer), INVALID);
        }
    }

    private void columnsOfADrawer() {
        b.says("Drawers and cards", "A drawer has columns (1 to 4; 3 at first), numbered from 0");
        ExampleDrawers x = new ExampleDrawers();
        b.is("count(2) at first", x.count(2), 3);
        b.is("count(3) at first", x.count(3), 3);
        for (int drawer = 0; drawer < 2; drawer++) {
            for (int many = 1; many <= 4; many++) {
                x.columns(drawer, many);
                x.card(drawer, 10, 11, 12, 13);
                b.is("columns there are", x.count(2 + drawer), many);
                for (int column = 0; column < 4; column++) {
                    b.is("column " + column + " of " + many, x.valueOf(drawer, 0, column),
                            column < many ? 10 + column : INVALID);
                }
            }
        }
        b.refused("columns(0, 0)", INVALID, Scenes::few, y -> y.columns(0, 0));
        b.refused("columns(1, 5)", INVALID, Scenes::few, y -> y.columns(1, 5));
    }

    private void cardsOfADrawer() {
        b.says("Drawers and cards", "at most 12 cards, numbered from 0");
        for (int drawer = 0; drawer < 2; drawer++) {
            ExampleDrawers x = new ExampleDrawers();
            for (int card = 0; card < 12; card++) {
                b.is("card ahead of it", x.valueOf(drawer, card, 0), INVALID);
                b.is("card of " + drawer, x.card(drawer, 50 + card, 0, 0, 0), card);
                b.is("the card " + card, x.valueOf(drawer, card, 0), 50 + card);
            }
            b.is("the 13th card", x.card(drawer, 1, 1, 1, 1), Bounds.LIMIT);
            b.is("cards of " + drawer, x.count(drawer), 12);
            b.is("cards of the other", x.count(1 - drawer), 0);
            b.is("the card 12", x.valueOf(drawer, 12, 0), INVALID);
        }
    }

    private void values() {
        b.says("Drawers and cards", "In each column a card has a value (0 to 99), or a blank");
        ExampleDrawers x = new ExampleDrawers();
        x.columns(0, 4);
        int[] edges = {-1, 0, 99};
        for (int value : edges) {
            int card = x.card(0, value, value, value, value);
            for (int column = 0; column < 4; column++) {
                b.is("a card's " + value, x.valueOf(0, card, column), value);
                x.cell(0, column, value == -1 ? 1 : 2, 0, 0);
                b.is("a value or not", (x.cards(0) >> card) & 1, 1);
                x.cell(0, column, value == -1 ? 2 : 1, 0, 0);
                b.is("a value or not", (x.cards(0) >> card) & 1, 0);
                x.clear(0);
            }
        }
        for (int column = 0; column < 4; column++) {
            b.is("put of -2", x.put(0, 0, column, -2), INVALID);
            b.is("put of 100", x.put(0, 0, column, 100), INVALID);
        }
    }

    private void numbersBehindADroppedCard() {
        b.says("Drawers and cards",
                "If a card is dropped, those behind it have numbers that are less by 1");
        for (int dropped = 0; dropped < 12; dropped++) {
            ExampleDrawers x = Bounds.after(Scenes::full);
            b.is("drop(1, " + dropped + ")", x.drop(1, dropped), 11);
            for (int card = 0; card < 11; card++) {
                int before = card < dropped ? card : card + 1;
                b.is("first value of " + card, x.valueOf(1, card, 0), 90 + before % 3);
                b.is("last value of " + card, x.valueOf(1, card, 3), 50 + before);
            }
            b.is("the card 11", x.valueOf(1, 11, 0), INVALID);
            b.is("the other drawer's card 11", x.valueOf(0, 11, 0), 11);
        }
    }

    // ---- "Promise 1: A new object"

    private void newObject() {
        b.says("Promise 1", "Creates two empty drawers with three columns each");
        ExampleDrawers x = new ExampleDrawers();
        int[] counts = {0, 0, 3, 3, 0, 0, 255, 0, 0, INVALID, -1, -1, 0, 0};
        for (int what = 0; what < counts.length; what++) {
            b.is("count(" + what + ")", x.count(what), counts[what]);
        }
        for (int drawer = 0; drawer < 2; drawer++) {
            b.is("valueOf(_, 0, 0)", x.valueOf(drawer, 0, 0), INVALID);
            for (int place = 0; place < 12; place++) {
                b.is("cellOf(_, " + place / 4 + ", " + place % 4 + ")",
                        x.cellOf(drawer, place / 4, place % 4), 0);
            }
            b.is("a fourth column", x.cellOf(drawer, 3, 0), INVALID);
            b.is("a card", x.card(drawer, 1, 2, 3, 4), 0);
            b.is("its third column", x.valueOf(drawer, 0, 2), 3);
            b.is("its fourth column", x.valueOf(drawer, 0, 3), INVALID);
        }
        b.is("cards(1): it is of the drawer 0 alone", x.cards(1), Bounds.IMPOSSIBLE);
        emptyAnswers();
    }

    private void emptyAnswers() {
        ExampleDrawers x = new ExampleDrawers();
        b.is("many()", x.many(), 0);
        b.is("unlike()", x.unlike(), 0);
        b.is("cards(0)", x.cards(0), 0);
        b.is("row(0, 0)", x.row(0, 0), Bounds.MISSING);
        b.is("why(0, 0)", x.why(0, 0), INVALID);
        b.is("tightest(0)", x.tightest(0), Bounds.MISSING);
        int[] totals = {0, 0, Bounds.MISSING, Bounds.MISSING, 0};
        for (int what = 0; what < totals.length; what++) {
            b.is("total(2, " + what + ")", x.total(2, what), totals[what]);
            b.is("total(3, " + what + ")", x.total(3, what), Bounds.MISSING);
        }
        b.is("fault(0)", x.fault(0), 0);
        b.is("fault(1)", x.fault(1), 1);
        b.is("clearText()", x.clearText(), 0);
        b.is("undo()", x.undo(), Bounds.IMPOSSIBLE);
    }

    // ---- "Promise 2: columns"

    private void columns() {
        columnsSets();
        b.says("Promise 2", "`drawer`: 0 or 1");
        b.range("columns(_, 2)", Scenes::asked, (x, n) -> x.columns(n, 2), 0, 1);
        b.says("Promise 2", "`many`: 1 to 4");
        b.range("columns(0, _)", Scenes::asked, (x, n) -> x.columns(0, n), 1, 4);
        b.range("columns(1, _)", Scenes::few, (x, n) -> x.columns(1, n), 1, 4);
        columnsReturns();
        b.says("Promise 2", "INVALID_ARGUMENT if an argument is out of range");
        b.refused("columns(2, 5)", INVALID, Scenes::full, x -> x.columns(2, 5));
        b.refused("columns(-1, 0)", INVALID, Scenes::untouched, x -> x.columns(-1, 0));
    }

    private void columnsSets() {
        b.says("Promise 2", "its cards are gone, all cells of its example are of kind 0");
        for (int many = 1; many <= 4; many++) {
            ExampleDrawers x = Bounds.after(Scenes::asked);
            x.columns(1, many);
            b.is("cards", x.count(1), 0);
            b.is("cards of the other", x.count(0), 3);
            b.is("cells of other kinds, all of the drawer 0", x.count(5), 1);
            for (int column = 0; column < many; column++) {
                for (int what = 0; what < 4; what++) {
                    b.is("a cell of many " + many, x.cellOf(1, column, what), 0);
                }
            }
            b.is("the cell behind them", x.cellOf(1, many, 0), INVALID);
            x.columns(1, 4);
            b.is("no cell comes back", x.cellOf(1, 3, 0), 0);
            x.card(1, 1, 1, 1, 1);
            b.is("no card comes back", x.valueOf(1, 1, 0), INVALID);
        }
    }

    private void columnsReturns() {
        b.says("Promise 2", "Returns how many cards are gone");
        b.change("columns(0, 3) of none", 0, Scenes::untouched, x -> x.columns(0, 3));
        b.change("columns(1, 4) of one", 1, Scenes::few, x -> x.columns(1, 4));
        b.change("columns(0, 2) of three", 3, Scenes::asked, x -> x.columns(0, 2));
        b.change("columns(0, 4) of twelve", 12, Scenes::full, x -> x.columns(0, 4));
        b.change("columns(1, 1) of twelve", 12, Scenes::full, x -> x.columns(1, 1));
    }

    // ---- "Promise 3: card"

    private void card() {
        cardIsBehindAllOthers();
        valuesThatDoNotMatter();
        b.says("Promise 3", "`drawer`: 0 or 1");
        b.range("card(_, 1, 2, 3, 4)", Scenes::asked, (x, n) -> x.card(n, 1, 2, 3, 4), 0, 1);
        b.says("Promise 3", "`a`: -1 (a blank) to 99: in the column 0");
        b.range("card(0, _, 2, 3, 4)", Scenes::few, (x, n) -> x.card(0, n, 2, 3, 4), -1, 99);
        edgesOfAColumn(0);
        b.says("Promise 3", "`b`: -1 to 99: in the column 1");
        b.range("card(1, 1, _, 3, 4)", Scenes::few, (x, n) -> x.card(1, 1, n, 3, 4), -1, 99);
        edgesOfAColumn(1);
        b.says("Promise 3", "`c`: -1 to 99: in the column 2");
        b.range("card(0, 1, 2, _, 4)", Scenes::few, (x, n) -> x.card(0, 1, 2, n, 4), -1, 99);
        edgesOfAColumn(2);
        b.says("Promise 3", "`d`: -1 to 99: in the column 3");
        b.range("card(1, 1, 2, 3, _)", Scenes::asked, (x, n) -> x.card(1, 1, 2, 3, n), -1, 99);
        edgesOfAColumn(3);
        b.says("Promise 3", "Returns its number");
        b.change("the first card", 0, Scenes::untouched, x -> x.card(0, -1, -1, -1, -1));
        b.change("the second card", 1, Scenes::few, x -> x.card(1, 99, 99, 99, 99));
        b.says("Promise 3", "INVALID_ARGUMENT if an argument is out of range");
        b.refused("a wrong value where there is no such column", INVALID, Scenes::few,
                x -> x.card(0, 1, 2, 3, 100));
        b.refused("nothing in its range", INVALID, Scenes::asked,
                x -> x.card(2, -2, 100, -2, 100));
        cardsAreTwelve();
    }

    private void cardIsBehindAllOthers() {
        b.says("Promise 3", "Adds a card, behind all others");
        ExampleDrawers x = new ExampleDrawers();
        b.is("the first", x.card(0, 9, 1, 1, 1), 0);
        b.is("the second", x.card(0, 1, 1, 1, 1), 1);
        b.is("the third", x.card(0, 5, 1, 1, 1), 2);
        x.drop(0, 0);
        b.is("behind two that are left", x.card(0, 7, 1, 1, 1), 2);
        b.is("the card 0", x.valueOf(0, 0, 0), 1);
        b.is("the card 1", x.valueOf(0, 1, 0), 5);
        b.is("the card 2", x.valueOf(0, 2, 0), 7);
    }

    private void valuesThatDoNotMatter() {
        b.says("Promise 3", "values of columns that there are not do not matter");
        for (int many = 1; many <= 4; many++) {
            ExampleDrawers x = new ExampleDrawers();
            x.columns(0, many);
            x.card(0, 1, 2, 3, 4);
            x.card(0, 1, many > 1 ? 2 : 99, many > 2 ? 3 : -1, many > 3 ? 4 : 0);
            b.is("unlike() of columns " + many, x.unlike(), 1);
            x.order(0, many, 1);
            b.is("the order by a column that there is not", x.row(0, 0), 0);
            b.is("the value there", x.valueOf(0, 1, many), INVALID);
            b.is("the row's value there", x.row(1, 10 + many), Bounds.MISSING);
        }
    }

    /** -1, 0 and 99 are put into the column, and the next ones outside are not. */
    private void edgesOfAColumn(int column) {
        int[] edges = {-1, 0, 99};
        for (int edge : edges) {
            ExampleDrawers x = new ExampleDrawers();
            x.columns(0, 4);
            int[] v = {50, 50, 50, 50};
            v[column] = edge;
            b.is("card", x.card(0, v[0], v[1], v[2], v[3]), 0);
            for (int each = 0; each < 4; each++) {
                b.is("valueOf(0, 0, " + each + ")", x.valueOf(0, 0, each), v[each]);
            }
        }
    }

    private void cardsAreTwelve() {
        b.says("Promise 3", "LIMIT_REACHED if there are 12");
        b.refused("a 13th card in the drawer 0", Bounds.LIMIT, Scenes::full,
                x -> x.card(0, 1, 2, 3, 4));
        b.refused("a 13th card in the drawer 1", Bounds.LIMIT, Scenes::full,
                x -> x.card(1, -1, -1, -1, -1));
        b.change("the twelfth card", 11, x -> {
            Scenes.full(x);
            x.drop(0, 5);
        }, x -> x.card(0, 1, 2, 3, 4));
        ExampleDrawers x = Bounds.after(Scenes::full);
        x.columns(0, 1);
        b.is("the other drawer is still full", x.card(1, 1, 1, 1, 1), Bounds.LIMIT);
        b.is("there is room again", x.card(0, 1, 1, 1, 1), 0);
    }

    // ---- "Promise 4: put"

    private void put() {
        b.says("Promise 4", "Puts a value, or a blank, into a column of a card");
        b.change("put of a value", 5, Scenes::asked, x -> x.put(1, 0, 1, 77));
        b.change("put of a blank", 99, Scenes::full, x -> x.put(0, 11, 3, -1));
        putEverywhere();
        b.says("Promise 4", "`drawer`: 0 or 1");
        b.range("put(_, 0, 0, 1)", Scenes::asked, (x, n) -> x.put(n, 0, 0, 1), 0, 1);
        b.says("Promise 4", "`card`: number of the card");
        b.range("put(0, _, 0, 1)", Scenes::few, (x, n) -> x.put(0, n, 0, 1), 0, 1);
        b.range("put(1, _, 2, 1)", Scenes::few, (x, n) -> x.put(1, n, 2, 1), 0, 0);
        b.range("put(1, _, 3, 1)", Scenes::full, (x, n) -> x.put(1, n, 3, 1), 0, 11);
        b.refused("put(0, 0, 0, 1) of no card", INVALID, Scenes::untouched,
                x -> x.put(0, 0, 0, 1));
        b.says("Promise 4", "`column`: a column of the drawer");
        b.range("put(0, 0, _, 1)", Scenes::asked, (x, n) -> x.put(0, 0, n, 1), 0, 1);
        b.range("put(1, 0, _, 1)", Scenes::asked, (x, n) -> x.put(1, 0, n, 1), 0, 3);
        b.range("put(1, 0, _, 1)", Scenes::few, (x, n) -> x.put(1, 0, n, 1), 0, 2);
        b.says("Promise 4", "`value`: -1 (a blank) to 99");
        b.range("put(0, 1, 1, _)", Scenes::few, (x, n) -> x.put(0, 1, 1, n), -1, 99);
        putReturns();
        b.says("Promise 4", "INVALID_ARGUMENT if an argument is out of range");
        b.refused("put(2, 12, 4, 100)", INVALID, Scenes::full, x -> x.put(2, 12, 4, 100));
        b.refused("put(0, 12, 3, 99)", INVALID, Scenes::full, x -> x.put(0, 12, 3, 99));
    }

    private void putEverywhere() {
        for (int place = 0; place < 48; place++) {
            ExampleDrawers x = Bounds.after(Scenes::full);
            int card = place / 4;
            int column = place % 4;
            int was = x.valueOf(0, card, column);
            b.is("put(0, " + card + ", " + column + ", 44)", x.put(0, card, column, 44), was);
            ExampleDrawers other = Bounds.after(Scenes::full);
            for (int each = 0; each < 48; each++) {
                b.is("valueOf(0, " + each / 4 + ", " + each % 4 + ")",
                        x.valueOf(0, each / 4, each % 4),
                        each == place ? 44 : other.valueOf(0, each / 4, each % 4));
            }
        }
    }

    private void putReturns() {
        b.says("Promise 4", "Returns what was there");
        ExampleDrawers x = Bounds.after(Scenes::few);
        b.is("a value was there", x.put(0, 1, 1, -1), 8);
        b.is("a blank was there", x.put(0, 1, 1, -1), -1);
        b.is("a blank was there", x.put(0, 1, 1, 0), -1);
        b.is("0 was there", x.put(0, 1, 1, 99), 0);
        b.is("99 was there", x.put(0, 1, 1, 99), 99);
        b.change("put of the same", 8, Scenes::few, y -> y.put(0, 1, 1, 8));
        b.change("a blank for a blank is no error", -1, Scenes::few, y -> y.put(0, 0, 1, -1));
    }

    // ---- "Promise 5: drop"

    private void drop() {
        b.says("Promise 5", "Drops a card");
        b.change("drop of the first", 1, Scenes::few, x -> x.drop(0, 0));
        b.change("drop of the last", 11, Scenes::full, x -> x.drop(1, 11));
        b.says("Promise 5", "`drawer`: 0 or 1");
        b.range("drop(_, 0)", Scenes::few, (x, n) -> x.drop(n, 0), 0, 1);
        b.says("Promise 5", "`card`: number of the card");
        b.range("drop(0, _)", Scenes::few, (x, n) -> x.drop(0, n), 0, 1);
        b.range("drop(1, _)", Scenes::few, (x, n) -> x.drop(1, n), 0, 0);
        b.range("drop(0, _)", Scenes::full, (x, n) -> x.drop(0, n), 0, 11);
        b.says("Promise 5", "Returns how many are left");
        ExampleDrawers x = Bounds.after(Scenes::full);
        for (int left = 11; left >= 0; left--) {
            b.is("drop(0, 0)", x.drop(0, 0), left);
            b.is("drop(1, " + left + ")", x.drop(1, left), left);
        }
        b.says("Promise 5", "INVALID_ARGUMENT if an argument is out of range");
        b.is("drop(0, 0) of none", x.drop(0, 0), INVALID);
        b.is("drop(1, 0) of none", x.drop(1, 0), INVALID);
        b.refused("drop(0, 0) of a new object", INVALID, Scenes::untouched, y -> y.drop(0, 0));
        b.refused("drop(1, 1)", INVALID, Scenes::few, y -> y.drop(1, 1));
    }

    // ---- "Promise 6: valueOf"

    private void valueOf() {
        b.says("Promise 6", "Returns what a card has in a column");
        b.noChange("valueOf(1, 11, 3)", 61, Scenes::full, x -> x.valueOf(1, 11, 3));
        b.noChange("valueOf(0, 0, 0)", 5, Scenes::few, x -> x.valueOf(0, 0, 0));
        b.says("Promise 6", "`drawer`: 0 or 1");
        b.range("valueOf(_, 0, 0)", Scenes::few, (x, n) -> x.valueOf(n, 0, 0), 0, 1);
        b.says("Promise 6", "`card`: number of the card");
        b.range("valueOf(0, _, 0)", Scenes::few, (x, n) -> x.valueOf(0, n, 0), 0, 1);
        b.range("valueOf(1, _, 0)", Scenes::few, (x, n) -> x.valueOf(1, n, 0), 0, 0);
        b.range("valueOf(0, _, 3)", Scenes::full, (x, n) -> x.valueOf(0, n, 3), 0, 11);
        b.refused("valueOf(0, 0, 0) of no card", INVALID, Scenes::untouched,
                x -> x.valueOf(0, 0, 0));
        b.says("Promise 6", "`column`: a column of the drawer");
        b.range("valueOf(0, 0, _)", Scenes::asked, (x, n) -> x.valueOf(0, 0, n), 0, 1);
        b.range("valueOf(1, 0, _)", Scenes::asked, (x, n) -> x.valueOf(1, 0, n), 0, 3);
        b.says("Promise 6", "Returns it, -1 for a blank");
        ExampleDrawers x = Bounds.after(Scenes::few);
        b.is("a blank", x.valueOf(0, 0, 1), -1);
        b.is("0", x.valueOf(0, 1, 2), 0);
        b.is("99", x.valueOf(1, 0, 0), 99);
        b.says("Promise 6", "INVALID_ARGUMENT if an argument is out of range");
        b.refused("valueOf(2, 2, 3)", INVALID, Scenes::few, y -> y.valueOf(2, 2, 3));
        b.refused("valueOf(-1, -1, -1)", INVALID, Scenes::asked, y -> y.valueOf(-1, -1, -1));
    }
}
