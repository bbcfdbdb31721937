/** Calls on a twin, by chance, with arguments that mostly suit the state. */
final class RandomCalls {
    private static final String SIGNS = "*_!#<>-,0123456789wxyz";
    private static final String[] CELLS = {"*", "_", "!", "2", "#1", "<2", ">0", "0-2", "2-1", "w",
        "x", "<w", ">w", "<x", ">x", "03", "1-", "<", "10-9", "z"};
    private static final String[] LONG_CELLS = {"10-20", "00-99", "11-12", "#45"};

    /** Calls of any kind: what is named more often is made more often. */
    private static final String[] ANY = {"columns", "card", "card", "card", "card", "card", "card",
        "card", "card", "put", "put", "put", "drop", "valueOf", "cell", "cell", "cell", "cell",
        "cell", "cell", "clear", "both", "both", "order", "order", "order", "show", "show",
        "cellOf", "cellOf", "many", "row", "row", "row", "total", "total", "unlike", "cards",
        "why", "why", "tightest", "tightest", "count", "undo", "undo", "type", "clearText", "fault",
        "read", "text", "text"};

    private final Twin twin;
    private final Chance chance;
    private final int greatest;

    RandomCalls(Twin twin, Chance chance) {
        this.twin = twin;
        this.chance = chance;
        // Few unlike values, so that many cards fit and are alike.
        greatest = 1 + chance.below(6);
    }

    /** Begins with full drawers, both of them asked. */
    void fullDrawers() {
        for (int card = 0; card < 12; card++) {
            twin.call("card", 0, value(), value(), value(), value());
            twin.call("card", 1, value(), value(), value(), value());
        }
        twin.call("both", 1);
    }

    /** Begins with a full text, or with one that is nearly so. */
    void longText() {
        int length = chance.from(56, 61);
        for (int i = 0; i < length && i < 62; i++) {
            twin.call("type", '*');
        }
    }

    void any() {
        make(chance.oneOf(ANY));
    }

    /** Makes the call of that name (or types a text); answers with what is due. */
    int make(String name) {
        switch (name) {
            case "columns":
                return twin.call(name, drawer(), chance.from(1, 4));
            case "card":
                return twin.call(name, drawer(), value(), value(), value(), value());
            case "put":
                return put();
            case "drop":
                return drop();
            case "valueOf":
                return valueOf();
            case "cell":
                return cell();
            case "cellOf":
                return cellOf();
            case "clear":
            case "cards":
                return twin.call(name, drawer());
            case "both":
                return twin.call(name, chance.below(4) == 0 ? chance.from(0, 1) : 1);
            case "order":
                return twin.call(name, chance.from(0, 1), chance.from(-1, 7), chance.from(0, 1));
            case "show":
                return twin.call(name, chance.from(0, 255));
            default:
                return answer(name);
        }
    }

    private int answer(String name) {
        switch (name) {
            case "row":
                return row();
            case "total":
                return twin.call(name, chance.from(0, 7), chance.from(0, 4));
            case "why":
                return why();
            case "tightest":
            case "fault":
                return twin.call(name, chance.from(0, 1));
            case "count":
                return twin.call(name, chance.from(0, 13));
            case "type":
                return twin.call(name, chance.below(4) == 0 ? chance.from(32, 126)
                        : character(SIGNS.charAt(chance.below(SIGNS.length()))));
            case "read":
                return read();
            case "text":
                return text();
            default:
                // many, unlike, undo and clearText take nothing.
                return twin.call(name);
        }
    }

    private int drawer() {
        return chance.from(0, 1);
    }

    private int value() {
        return chance.below(30) == 0 ? 99 : chance.from(-1, greatest);
    }

    private static int inside(int drawer) {
        return drawer == 1 ? 1 : 0;
    }

    private int card(int drawer) {
        return chance.from(0, Math.max(twin.due("count", inside(drawer)) - 1, 0));
    }

    private int column(int drawer) {
        return chance.from(0, twin.due("count", 2 + inside(drawer)) - 1);
    }

    private int character(int due) {
        return chance.from(due, due);
    }

    private int put() {
        int drawer = drawer();
        return twin.call("put", drawer, card(drawer), column(drawer), value());
    }

    private int drop() {
        int drawer = drawer();
        return twin.call("drop", drawer, card(drawer));
    }

    private int valueOf() {
        int drawer = drawer();
        return twin.call("valueOf", drawer, card(drawer), column(drawer));
    }

    private int cell() {
        int drawer = drawer();
        int kind = chance.from(0, 10);
        // The first letters more often, so that cells with the same one meet.
        int a = kind < 3 ? chance.from(0, 0)
                : kind > 7 ? chance.from(0, chance.below(4)) : chance.from(0, greatest);
        int least = Math.max(0, Math.min(a, 99));
        int b = kind == 7 ? chance.from(least, least + greatest) : chance.from(0, 0);
        return twin.call("cell", drawer, column(drawer), kind, a, b);
    }

    private int cellOf() {
        int drawer = drawer();
        return twin.call("cellOf", drawer, column(drawer), chance.from(0, 3));
    }

    private int row() {
        int index = chance.from(0, Math.max(twin.due("many"), 1));
        int what = chance.below(8) == 0 ? chance.from(0, 24)
                : new int[] {0, 1, 10 + chance.below(8), 20 + chance.below(4)}[chance.below(4)];
        return twin.call("row", index, what);
    }

    private int why() {
        boolean both = twin.due("count", 4) == 1;
        int second = both || chance.below(20) == 0 ? card(1) : 0;
        return twin.call("why", card(0), second);
    }

    /** Mostly with a new text, since few texts that grew by chance are examples. */
    private int read() {
        if (chance.below(3) != 0) {
            text();
        }
        return twin.call("read", drawer());
    }

    /** Types some cells behind an empty text, now and then behind what is there. */
    private int text() {
        if (chance.below(6) != 0) {
            twin.call("clearText");
        }
        StringBuilder text = new StringBuilder();
        int pieces = chance.below(6);
        for (int piece = 0; piece < pieces; piece++) {
            text.append(piece == 0 ? "" : ",");
            text.append(chance.below(9) == 0 ? chance.oneOf(LONG_CELLS) : chance.oneOf(CELLS));
        }
        if (chance.below(4) == 0) {
            text.append(SIGNS.charAt(chance.below(SIGNS.length())));
        }
        for (int i = 0; i < text.length(); i++) {
            twin.call("type", character(text.charAt(i)));
        }
        return text.length();
    }
}
