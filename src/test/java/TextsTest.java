/** Promises 22 to 25: type, clearText, fault, read. */
public final class TextsTest {
    private static final int INVALID = ExampleDrawers.INVALID_ARGUMENT;
    private static final int IMPOSSIBLE = ExampleDrawers.NOT_POSSIBLE;
    private static final int LIMIT = ExampleDrawers.LIMIT_REACHED;
    private static final int MISSING = ExampleDrawers.NOT_FOUND;
    private static final Due DUE = new Due("TextsTest");

    public static void main(String[] args) {
        type();
        clearText();
        noFault();
        faults();
        charactersAtTheirPlaces();
        readKinds();
        read();
        readIsRefused();
        DUE.end();
    }

    private static ExampleDrawers typed(String text) {
        ExampleDrawers x = new ExampleDrawers();
        write(x, text);
        return x;
    }

    private static void write(ExampleDrawers x, String text) {
        x.clearText();
        for (int i = 0; i < text.length(); i++) {
            x.type(text.charAt(i));
        }
    }

    private static void type() {
        DUE.part("promise 22");
        ExampleDrawers x = new ExampleDrawers();
        int[] wrong = {31, 127, -1, 0, 10, 233, Integer.MAX_VALUE, Integer.MIN_VALUE};
        for (int character : wrong) {
            DUE.is("type(" + character + ")", x.type(character), INVALID);
        }
        DUE.is("the length", x.count(8), 0);
        DUE.is("type(32)", x.type(32), 1);
        DUE.is("type(126)", x.type(126), 2);
        for (int length = 3; length <= 60; length++) {
            DUE.is("type(65)", x.type(65), length);
        }
        DUE.is("type(65) of a full text", x.type(65), LIMIT);
        DUE.is("type(31) of a full text", x.type(31), INVALID);
        DUE.is("the length", x.count(8), 60);
        DUE.is("states", x.count(7), 0);
        DUE.is("undo()", x.undo(), IMPOSSIBLE);
    }

    private static void clearText() {
        DUE.part("promise 23");
        ExampleDrawers x = new ExampleDrawers();
        DUE.is("clearText() of none", x.clearText(), 0);
        write(x, "5,6");
        DUE.is("clearText()", x.clearText(), 3);
        DUE.is("the length", x.count(8), 0);
        DUE.is("fault(0)", x.fault(0), 0);
        x.type('*');
        DUE.is("fault(0) of a new text", x.fault(0), MISSING);
        DUE.is("clearText()", x.clearText(), 1);
        DUE.is("states", x.count(7), 0);
    }

    private static void noFault() {
        DUE.part("promise 24, no fault");
        String[] texts = {"*", "_", "!", "0", "00", "07", "99", "#5", "#05", "<1", "<99", ">0",
            ">10", "1-2", "01-1", "5-5", "0-99", "99-99", "w", "x", "y", "z", "<w", ">z", "<y",
            "*,*", "1,2,3,4", "10-20,<x,x,#9", "_,!,>w,w"};
        for (String text : texts) {
            ExampleDrawers x = typed(text);
            DUE.is("fault(0) of " + text, x.fault(0), MISSING);
            DUE.is("fault(1) of " + text, x.fault(1), MISSING);
        }
        ExampleDrawers x = typed("*");
        DUE.is("fault(-1)", x.fault(-1), INVALID);
        DUE.is("fault(2)", x.fault(2), INVALID);
    }

    private static void faults() {
        DUE.part("promise 24, faults");
        faults("", 0, 1);
        faults(" ", 0, 1);
        faults("v", 0, 1);
        faults("{", 0, 1);
        faults("/", 0, 1);
        faults(":", 0, 1);
        faults("-", 0, 1);
        faults(",", 0, 1);
        faults("W", 0, 1);
        faults("123", 2, 1);
        faults("**", 1, 1);
        faults("5w", 1, 1);
        faults("w5", 1, 1);
        faults("wx", 1, 1);
        faults("w-z", 1, 1);
        faults("#", 1, 1);
        faults("#w", 1, 1);
        faults("#123", 3, 1);
        faults("#5-7", 2, 1);
        faults("<", 1, 1);
        faults("<#", 1, 1);
        faults("<*", 1, 1);
        faults(">,", 1, 1);
        faults("<123", 3, 1);
        faults(">w5", 2, 1);
        faults(">v", 1, 1);
        faults("5-", 2, 1);
        faults("5-,", 2, 1);
        faults("5-w", 2, 1);
        faults("5--6", 2, 1);
        faults("5-678", 4, 1);
        faults("5-6-7", 3, 1);
        faults("*,", 2, 1);
        faults("*,,", 2, 1);
        faults("*, 5", 2, 1);
        faults("*,*,*,", 6, 1);
        faults("*,*,*,,*", 6, 1);
        faults("9-3", 0, 2);
        faults("10-9", 0, 2);
        faults("99-98", 0, 2);
        faults("09-08", 0, 2);
        faults("*,9-3", 2, 2);
        faults("9-3,", 0, 2);
        faults("9-3,8-2", 0, 2);
        faults("9-3x", 0, 2);
        faults("9-33x", 4, 1);
        faults("50-345", 0, 2);
        faults("$,9-3", 0, 1);
        faults("*,*,*,9-3,*", 6, 2);
        faults("*,*,*,*,", 7, 3);
        faults("*,*,*,*,*", 7, 3);
        faults("*,*,*,*,$", 7, 3);
        faults("10-20,<x,x,#9,", 13, 3);
        faults("*,*,*,*$", 7, 1);
        faults("*,*,$,*,*", 4, 1);
        faults("                                                            ", 0, 1);
    }

    private static void faults(String text, int place, int reason) {
        ExampleDrawers x = typed(text);
        DUE.is("fault(0) of " + text, x.fault(0), place);
        DUE.is("fault(1) of " + text, x.fault(1), reason);
        DUE.is("read(0) of " + text, x.read(0), IMPOSSIBLE);
        DUE.is("fault(2) of " + text, x.fault(2), INVALID);
    }

    private static void charactersAtTheirPlaces() {
        DUE.part("promise 24, what can stand behind what");
        follow("", "*_!#<>0123456789wxyz");
        follow("*", ",");
        follow("_", ",");
        follow("!", ",");
        follow("5", ",-0123456789");
        follow("55", ",-");
        follow("#", "0123456789");
        follow("#5", ",0123456789");
        follow("#55", ",");
        follow("<", "0123456789wxyz");
        follow(">", "0123456789wxyz");
        follow("<5", ",0123456789");
        follow("<55", ",");
        follow(">w", ",");
        follow("1-", "0123456789");
        follow("1-2", ",0123456789");
        follow("1-22", ",");
        follow("x", ",");
        follow("*,", "*_!#<>0123456789wxyz");
    }

    /** Only what is told can stand behind a text that has no other fault. */
    private static void follow(String text, String can) {
        for (int character = 32; character <= 126; character++) {
            ExampleDrawers x = typed(text);
            x.type(character);
            boolean stands = can.indexOf(character) >= 0;
            boolean wrong = x.fault(0) == text.length() && x.fault(1) == 1;
            DUE.holds("'" + (char) character + "' behind '" + text + "'", stands != wrong);
        }
    }

    private static void readKinds() {
        DUE.part("promise 25, the kinds");
        readsAs("*", 0, 0, 0);
        readsAs("_", 1, 0, 0);
        readsAs("!", 2, 0, 0);
        readsAs("7", 3, 7, 0);
        readsAs("07", 3, 7, 0);
        readsAs("70", 3, 70, 0);
        readsAs("#9", 4, 9, 0);
        readsAs("#98", 4, 98, 0);
        readsAs("<5", 5, 5, 0);
        readsAs("<50", 5, 50, 0);
        readsAs(">5", 6, 5, 0);
        readsAs(">00", 6, 0, 0);
        readsAs("3-9", 7, 3, 9);
        readsAs("03-90", 7, 3, 90);
        readsAs("99-99", 7, 99, 99);
        readsAs("w", 8, 0, 0);
        readsAs("x", 8, 1, 0);
        readsAs("y", 8, 2, 0);
        readsAs("z", 8, 3, 0);
        readsAs("<w", 9, 0, 0);
        readsAs("<z", 9, 3, 0);
        readsAs(">x", 10, 1, 0);
        readsAs(">y", 10, 2, 0);
    }

    private static void readsAs(String text, int... due) {
        ExampleDrawers x = typed("*," + text);
        x.cell(1, 1, 7, 88, 89);
        x.read(1);
        for (int what = 0; what < 3; what++) {
            DUE.is("cellOf(1, 1, " + what + ") of " + text, x.cellOf(1, 1, what), due[what]);
        }
    }

    private static void read() {
        DUE.part("promise 25");
        ExampleDrawers x = new ExampleDrawers();
        x.columns(0, 4);
        x.card(0, 1, 2, 3, 4);
        x.card(0, 2, 2, 9, 4);
        x.card(0, 3, 2, -1, 5);
        for (int column = 0; column < 4; column++) {
            x.cell(0, column, 3, 60 + column, 0);
        }
        write(x, ">1,w");
        DUE.is("read(-1)", x.read(-1), INVALID);
        DUE.is("read(2)", x.read(2), INVALID);
        DUE.is("read(0)", x.read(0), 2);
        DUE.is("cells of other kinds", x.count(5), 2);
        DUE.is("cellOf(0, 2, 0)", x.cellOf(0, 2, 0), 0);
        DUE.is("cellOf(0, 2, 1)", x.cellOf(0, 2, 1), 0);
        DUE.is("the text stays", x.count(8), 4);
        DUE.is("read(1)", x.read(1), 2);
        DUE.is("cells of other kinds", x.count(5), 4);
        DUE.is("undo()", x.undo(), 3);
        DUE.is("undo()", x.undo(), 2);
        DUE.is("cellOf(0, 2, 1) after undo", x.cellOf(0, 2, 1), 62);
        DUE.is("the text stays", x.count(8), 4);
        write(x, "<4,2,!,_");
        DUE.is("read(0) of four cells", x.read(0), 0);
        write(x, "<4,2,!,4");
        DUE.is("read(0) of four cells", x.read(0), 2);
        x.both(1);
        DUE.is("read(1) without cards", x.read(1), IMPOSSIBLE);
        write(x, "*,*,*");
        DUE.is("read(1) without cards", x.read(1), 0);
        x.card(1, 7, 7, 7, 7);
        x.card(1, 8, 8, 8, 8);
        DUE.is("read(1) with cards", x.read(1), 4);
    }

    private static void readIsRefused() {
        DUE.part("promise 25, refused");
        ExampleDrawers x = typed("5,6,7");
        x.columns(0, 2);
        x.card(0, 5, 6, 7, 8);
        DUE.is("more cells than columns", x.read(0), IMPOSSIBLE);
        DUE.is("cells of other kinds", x.count(5), 0);
        DUE.is("states", x.count(7), 2);
        DUE.is("as many cells as columns", x.read(1), 1);
        x.columns(1, 1);
        DUE.is("more cells than columns", x.read(1), IMPOSSIBLE);
        DUE.is("a wrong drawer goes ahead", x.read(2), INVALID);
        write(x, "5,7-6");
        DUE.is("a fault", x.read(0), IMPOSSIBLE);
        write(x, "");
        DUE.is("the empty text", x.read(0), IMPOSSIBLE);
        DUE.is("states", x.count(7), 4);
        write(x, "5,6");
        DUE.is("as many cells as columns", x.read(0), 1);
        DUE.is("cellOf(0, 1, 1)", x.cellOf(0, 1, 1), 6);
    }
}
