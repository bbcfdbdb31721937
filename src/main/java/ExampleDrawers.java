/**
 * Record cards that are asked for by example: two drawers of cards, an example row for each of
 * them, and the rows (cards, or pairs of cards) that fit.
 *
 * <p>Everything that a call needs is made by the constructor and used again: no later call makes
 * an object.
 */
public final class ExampleDrawers {

    public static final int INVALID_ARGUMENT = -11;
    public static final int NOT_POSSIBLE = -12;
    public static final int LIMIT_REACHED = -13;
    public static final int NOT_FOUND = -14;

    private static final int NONE = -1;
    private static final int BLANK = -1;

    private static final int MOST_COLUMNS = 4;
    private static final int FIRST_COLUMNS = 3;
    private static final int MOST_CARDS = 12;
    private static final int MOST_STATES = 4;
    private static final int MOST_CHARACTERS = 60;
    private static final int GREATEST_VALUE = 99;
    private static final int LETTERS = 4;
    private static final int ORDERS = 2;

    // Columns and cells of both drawers are numbered in one: those of the drawer 1 behind 4.
    private static final int ALL_COLUMNS = 2 * MOST_COLUMNS;
    private static final int ALL_SHOWN = 255;

    // A row is told by one number: 12 times its card of the drawer 0 plus that of the drawer 1.
    private static final int MOST_ROWS = MOST_CARDS * MOST_CARDS;

    private static final int ANYTHING = 0;
    private static final int A_BLANK = 1;
    private static final int ANY_VALUE = 2;
    private static final int EQUAL = 3;
    private static final int OTHER = 4;
    private static final int BELOW = 5;
    private static final int ABOVE = 6;
    private static final int BETWEEN = 7;
    private static final int LETTER = 8;
    private static final int BELOW_LETTER = 9;
    private static final int ABOVE_LETTER = 10;

    private static final int WRONG_CHARACTER = 1;
    private static final int FALLING_NUMBERS = 2;
    private static final int FIFTH_CELL = 3;

    private static final int ROW_COLUMNS = 10;
    private static final int ROW_LETTERS = 20;

    private final State now;
    private final History history;
    private final Rows rows;
    private final Text text;
    private final Reading reading;

    public ExampleDrawers() {
        now = new State();
        history = new History();
        rows = new Rows(now);
        text = new Text();
        reading = new Reading(text);
    }

    // ---- drawers and cards

    public int columns(int drawer, int many) {
        if (!isBit(drawer) || many < 1 || many > MOST_COLUMNS) {
            return INVALID_ARGUMENT;
        }
        history.keep(now);
        return now.drawer(drawer).remake(many);
    }

    public int card(int drawer, int a, int b, int c, int d) {
        if (!isBit(drawer) || !isEntry(a) || !isEntry(b) || !isEntry(c) || !isEntry(d)) {
            return INVALID_ARGUMENT;
        }
        Drawer changed = now.drawer(drawer);
        if (changed.size() >= MOST_CARDS) {
            return LIMIT_REACHED;
        }
        history.keep(now);
        return changed.add(a, b, c, d);
    }

    public int put(int drawer, int card, int column, int value) {
        if (!isPlace(drawer, card, column) || !isEntry(value)) {
            return INVALID_ARGUMENT;
        }
        history.keep(now);
        return now.drawer(drawer).replace(card, column, value);
    }

    public int drop(int drawer, int card) {
        if (!isBit(drawer) || !now.drawer(drawer).hasCard(card)) {
            return INVALID_ARGUMENT;
        }
        history.keep(now);
        return now.drawer(drawer).remove(card);
    }

    public int valueOf(int drawer, int card, int column) {
        if (!isPlace(drawer, card, column)) {
            return INVALID_ARGUMENT;
        }
        return now.drawer(drawer).entry(card, column);
    }

    // ---- the question

    public int cell(int drawer, int column, int kind, int a, int b) {
        if (!isCell(drawer, column) || !isContent(kind, a, b)) {
            return INVALID_ARGUMENT;
        }
        history.keep(now);
        Example example = now.drawer(drawer).example();
        int before = example.kindAt(column);
        example.fill(column, kind, a, b);
        return before;
    }

    public int clear(int drawer) {
        if (!isBit(drawer)) {
            return INVALID_ARGUMENT;
        }
        history.keep(now);
        Example example = now.drawer(drawer).example();
        int before = example.otherKinds();
        example.wipe();
        return before;
    }

    public int both(int is) {
        if (!isBit(is)) {
            return INVALID_ARGUMENT;
        }
        history.keep(now);
        return now.askBoth(is);
    }

    public int order(int which, int column, int down) {
        if (!isBit(which) || column < NONE || column >= ALL_COLUMNS || !isBit(down)) {
            return INVALID_ARGUMENT;
        }
        history.keep(now);
        now.setOrder(which, column, down);
        return rows.find(NONE);
    }

    public int show(int set) {
        if (set < 0 || set > ALL_SHOWN) {
            return INVALID_ARGUMENT;
        }
        history.keep(now);
        now.setShown(set);
        return rows.countUnlike();
    }

    public int cellOf(int drawer, int column, int what) {
        if (!isCell(drawer, column) || what < 0 || what > 3) {
            return INVALID_ARGUMENT;
        }
        Drawer asked = now.drawer(drawer);
        switch (what) {
            case 0:
                return asked.example().kindAt(column);
            case 1:
                return asked.example().firstAt(column);
            case 2:
                return asked.example().secondAt(column);
            default:
                return asked.countFitting(column);
        }
    }

    // ---- answers

    public int many() {
        return rows.find(NONE);
    }

    public int row(int index, int what) {
        if (index < 0 || !isAboutRow(what)) {
            return INVALID_ARGUMENT;
        }
        if (index >= rows.find(NONE)) {
            return NOT_FOUND;
        }
        int row = rows.inOrder(index);
        if (what == 0) {
            return row / MOST_CARDS;
        }
        if (what == 1) {
            return now.isOfBoth() ? row % MOST_CARDS : NOT_FOUND;
        }
        int column = what < ROW_LETTERS ? what - ROW_COLUMNS : rows.tellerOf(what - ROW_LETTERS);
        return now.isAsked(column) ? now.entry(column, row) : NOT_FOUND;
    }

    public int total(int column, int what) {
        if (column < 0 || column >= ALL_COLUMNS || what < 0 || what > 4) {
            return INVALID_ARGUMENT;
        }
        return now.isAsked(column) ? rows.sumUp(column, what) : NOT_FOUND;
    }

    public int unlike() {
        return rows.countUnlike();
    }

    public int cards(int drawer) {
        if (!isBit(drawer)) {
            return INVALID_ARGUMENT;
        }
        if (drawer == 1 && !now.isOfBoth()) {
            return NOT_POSSIBLE;
        }
        return rows.cardSet(drawer);
    }

    public int why(int first, int second) {
        boolean isSecond = now.isOfBoth() ? now.drawer(1).hasCard(second) : second == 0;
        if (!now.drawer(0).hasCard(first) || !isSecond) {
            return INVALID_ARGUMENT;
        }
        int cell = rows.explain(first * MOST_CARDS + second);
        return cell == NONE ? NOT_FOUND : cell;
    }

    public int tightest(int what) {
        if (!isBit(what)) {
            return INVALID_ARGUMENT;
        }
        int most = rows.find(NONE);
        int tightest = NONE;
        for (int cell = 0; cell < ALL_COLUMNS; cell++) {
            int without = now.isAsked(cell) ? rows.find(cell) : 0;
            if (without > most) {
                most = without;
                tightest = cell;
            }
        }
        if (tightest == NONE) {
            return NOT_FOUND;
        }
        return what == 0 ? tightest : most;
    }

    public int count(int what) {
        switch (what) {
            case 0:
            case 1:
                return now.drawer(what).size();
            case 2:
            case 3:
                return now.drawer(what - 2).width();
            case 4:
                return now.isOfBoth() ? 1 : 0;
            case 5:
                return now.drawer(0).example().otherKinds() + now.drawer(1).example().otherKinds();
            case 6:
                return now.shownSet();
            case 7:
                return history.size();
            case 8:
                return text.length();
            case 10:
            case 11:
                return now.orderColumn(what - 10);
            case 12:
            case 13:
                return now.isDownwards(what - 12) ? 1 : 0;
            default:
                return INVALID_ARGUMENT;
        }
    }

    public int undo() {
        if (history.size() == 0) {
            return NOT_POSSIBLE;
        }
        history.restore(now);
        return history.size();
    }

    // ---- texts

    public int type(int character) {
        if (character < 32 || character > 126) {
            return INVALID_ARGUMENT;
        }
        if (text.length() >= MOST_CHARACTERS) {
            return LIMIT_REACHED;
        }
        return text.append(character);
    }

    public int clearText() {
        return text.empty();
    }

    public int fault(int what) {
        if (!isBit(what)) {
            return INVALID_ARGUMENT;
        }
        reading.start();
        if (!reading.hasFault()) {
            return NOT_FOUND;
        }
        return what == 0 ? reading.faultPlace() : reading.faultReason();
    }

    public int read(int drawer) {
        if (!isBit(drawer)) {
            return INVALID_ARGUMENT;
        }
        reading.start();
        if (reading.hasFault() || reading.cells() > now.drawer(drawer).width()) {
            return NOT_POSSIBLE;
        }
        history.keep(now);
        now.drawer(drawer).example().copyFrom(reading.example());
        return rows.find(NONE);
    }

    // ---- what arguments may be

    private static boolean isBit(int number) {
        return number == 0 || number == 1;
    }

    private static boolean isEntry(int value) {
        return value >= BLANK && value <= GREATEST_VALUE;
    }

    private boolean isCell(int drawer, int column) {
        return isBit(drawer) && now.drawer(drawer).hasColumn(column);
    }

    private boolean isPlace(int drawer, int card, int column) {
        return isCell(drawer, column) && now.drawer(drawer).hasCard(card);
    }

    private static boolean isContent(int kind, int a, int b) {
        if (kind < ANYTHING || kind > ABOVE_LETTER || a < 0 || a > greatestFirst(kind)) {
            return false;
        }
        return kind == BETWEEN ? b >= a && b <= GREATEST_VALUE : b == 0;
    }

    private static int greatestFirst(int kind) {
        if (kind < EQUAL) {
            return 0;
        }
        return kind < LETTER ? GREATEST_VALUE : LETTERS - 1;
    }

    private static boolean isAboutRow(int what) {
        return isBit(what)
                || what >= ROW_COLUMNS && what < ROW_COLUMNS + ALL_COLUMNS
                || what >= ROW_LETTERS && what < ROW_LETTERS + LETTERS;
    }

    /**
     * Numbers at places from 0 on. All arrays of the program are in here, so that each index is
     * looked at where it is used: beyond the ends there is 0, and nothing is put there.
     */
    private static final class Numbers {
        private final int[] held;

        Numbers(int length, int initial) {
            held = new int[Math.max(length, 0)];
            fill(initial);
        }

        int at(int index) {
            return index >= 0 && index < held.length ? held[index] : 0;
        }

        void set(int index, int number) {
            if (index >= 0 && index < held.length) {
                held[index] = number;
            }
        }

        void fill(int number) {
            for (int i = 0; i < held.length; i++) {
                held[i] = number;
            }
        }

        void copyFrom(Numbers other) {
            for (int i = 0; i < held.length; i++) {
                held[i] = other.at(i);
            }
        }
    }

    /** A cell for each column; those of columns that there are not stay of kind 0. */
    private static final class Example {
        private final Numbers kinds = new Numbers(MOST_COLUMNS, ANYTHING);
        private final Numbers firsts = new Numbers(MOST_COLUMNS, 0);
        private final Numbers seconds = new Numbers(MOST_COLUMNS, 0);

        int kindAt(int column) {
            return kinds.at(column);
        }

        int firstAt(int column) {
            return firsts.at(column);
        }

        int secondAt(int column) {
            return seconds.at(column);
        }

        void fill(int column, int kind, int a, int b) {
            kinds.set(column, kind);
            firsts.set(column, a);
            seconds.set(column, b);
        }

        void wipe() {
            kinds.fill(ANYTHING);
            firsts.fill(0);
            seconds.fill(0);
        }

        int otherKinds() {
            int others = 0;
            for (int column = 0; column < MOST_COLUMNS; column++) {
                if (kinds.at(column) != ANYTHING) {
                    others++;
                }
            }
            return others;
        }

        /** Whether a value or blank fits a cell without a look at any other cell. */
        boolean takesAlone(int column, int value) {
            int kind = kinds.at(column);
            int a = firsts.at(column);
            if (kind == ANYTHING || kind == A_BLANK) {
                return kind == ANYTHING || value == BLANK;
            }
            if (value == BLANK) {
                return false;
            }
            switch (kind) {
                case ANY_VALUE:
                case LETTER:
                    return true;
                case EQUAL:
                    return value == a;
                case OTHER:
                    return value != a;
                case BELOW:
                    return value < a;
                case ABOVE:
                    return value > a;
                case BETWEEN:
                    return value >= a && value <= seconds.at(column);
                default:
                    return false;
            }
        }

        void copyFrom(Example other) {
            kinds.copyFrom(other.kinds);
            firsts.copyFrom(other.firsts);
            seconds.copyFrom(other.seconds);
        }
    }

    /** The columns, the cards and the example of one drawer. */
    private static final class Drawer {
        private final Numbers entries = new Numbers(MOST_CARDS * MOST_COLUMNS, BLANK);
        private final Example example = new Example();
        private int width = FIRST_COLUMNS;
        private int size = 0;

        int width() {
            return width;
        }

        int size() {
            return size;
        }

        Example example() {
            return example;
        }

        boolean hasColumn(int column) {
            return column >= 0 && column < width;
        }

        boolean hasCard(int card) {
            return card >= 0 && card < size;
        }

        int entry(int card, int column) {
            if (!hasCard(card) || !hasColumn(column)) {
                return BLANK;
            }
            return entries.at(card * MOST_COLUMNS + column);
        }

        int remake(int columns) {
            int gone = size;
            width = columns;
            size = 0;
            example.wipe();
            return gone;
        }

        int add(int a, int b, int c, int d) {
            int start = size * MOST_COLUMNS;
            entries.set(start, a);
            entries.set(start + 1, b);
            entries.set(start + 2, c);
            entries.set(start + 3, d);
            size++;
            return size - 1;
        }

        int replace(int card, int column, int value) {
            int before = entry(card, column);
            entries.set(card * MOST_COLUMNS + column, value);
            return before;
        }

        int remove(int card) {
            size--;
            for (int i = card * MOST_COLUMNS; i < size * MOST_COLUMNS; i++) {
                entries.set(i, entries.at(i + MOST_COLUMNS));
            }
            return size;
        }

        int countFitting(int column) {
            int fitting = 0;
            for (int card = 0; card < size; card++) {
                if (example.takesAlone(column, entry(card, column))) {
                    fitting++;
                }
            }
            return fitting;
        }

        void copyFrom(Drawer other) {
            entries.copyFrom(other.entries);
            example.copyFrom(other.example);
            width = other.width;
            size = other.size;
        }
    }

    /** All that undo brings back. */
    private static final class State {
        private final Drawer drawer0 = new Drawer();
        private final Drawer drawer1 = new Drawer();
        private final Numbers orderColumns = new Numbers(ORDERS, NONE);
        private final Numbers orderDowns = new Numbers(ORDERS, 0);
        private int asksBoth = 0;
        private int shown = ALL_SHOWN;

        Drawer drawer(int number) {
            return number == 0 ? drawer0 : drawer1;
        }

        boolean isOfBoth() {
            return asksBoth == 1;
        }

        int askBoth(int is) {
            int before = asksBoth;
            asksBoth = is;
            return before;
        }

        int orderColumn(int which) {
            return orderColumns.at(which);
        }

        boolean isDownwards(int which) {
            return orderDowns.at(which) == 1;
        }

        void setOrder(int which, int column, int down) {
            orderColumns.set(which, column);
            orderDowns.set(which, down);
        }

        int shownSet() {
            return shown;
        }

        void setShown(int set) {
            shown = set;
        }

        /** Whether the question is of a column (0 to 7), and there is that column. */
        boolean isAsked(int column) {
            if (column < MOST_COLUMNS) {
                return drawer0.hasColumn(column);
            }
            return isOfBoth() && drawer1.hasColumn(column - MOST_COLUMNS);
        }

        boolean isShown(int column) {
            return isAsked(column) && ((shown >> column) & 1) == 1;
        }

        /** What a row has in a column (0 to 7); a blank, if there is no such column. */
        int entry(int column, int row) {
            if (column < MOST_COLUMNS) {
                return drawer0.entry(row / MOST_CARDS, column);
            }
            return drawer1.entry(row % MOST_CARDS, column - MOST_COLUMNS);
        }

        Example exampleOf(int cell) {
            return cell < MOST_COLUMNS ? drawer0.example() : drawer1.example();
        }

        void copyFrom(State other) {
            drawer0.copyFrom(other.drawer0);
            drawer1.copyFrom(other.drawer1);
            orderColumns.copyFrom(other.orderColumns);
            orderDowns.copyFrom(other.orderDowns);
            asksBoth = other.asksBoth;
            shown = other.shown;
        }
    }

    /** The latest states; with the fifth one the oldest is forgotten. */
    private static final class History {
        private final State latest = new State();
        private final State second = new State();
        private final State third = new State();
        private final State oldest = new State();
        private int size = 0;

        int size() {
            return size;
        }

        void keep(State state) {
            oldest.copyFrom(third);
            third.copyFrom(second);
            second.copyFrom(latest);
            latest.copyFrom(state);
            size = Math.min(size + 1, MOST_STATES);
        }

        void restore(State state) {
            state.copyFrom(latest);
            latest.copyFrom(second);
            second.copyFrom(third);
            third.copyFrom(oldest);
            size = Math.max(size - 1, 0);
        }
    }

    /** The rows of a state: which of them fit, in which order, and which are alike. */
    private static final class Rows {
        private final State state;
        private final Numbers found = new Numbers(MOST_ROWS, 0);
        private final Numbers marks = new Numbers(MOST_ROWS, 0);
        private final Numbers tellers = new Numbers(LETTERS, NONE);
        private int size = 0;
        private int leftOut = NONE;

        Rows(State state) {
            this.state = state;
        }

        /** Finds the rows that fit, if one cell (or NONE) is taken as one of kind 0. */
        int find(int without) {
            findTellers(without);
            size = 0;
            int firsts = state.drawer(0).size();
            int seconds = state.isOfBoth() ? state.drawer(1).size() : 1;
            for (int first = 0; first < firsts; first++) {
                for (int second = 0; second < seconds; second++) {
                    int row = first * MOST_CARDS + second;
                    if (firstMisfit(row) == NONE) {
                        found.set(size, row);
                        size++;
                    }
                }
            }
            return size;
        }

        /** The first cell that a row does not fit, or NONE. */
        int explain(int row) {
            findTellers(NONE);
            return firstMisfit(row);
        }

        /** The cell that tells for what a letter stands, or NONE. */
        int tellerOf(int letter) {
            return tellers.at(letter);
        }

        private void findTellers(int without) {
            leftOut = without;
            tellers.fill(NONE);
            // Backwards, so that the first cell with a letter has the last word.
            for (int cell = ALL_COLUMNS - 1; cell >= 0; cell--) {
                Example example = state.exampleOf(cell);
                int column = cell % MOST_COLUMNS;
                boolean counts = state.isAsked(cell) && cell != leftOut;
                if (counts && example.kindAt(column) == LETTER) {
                    tellers.set(example.firstAt(column), cell);
                }
            }
        }

        private int firstMisfit(int row) {
            for (int cell = 0; cell < ALL_COLUMNS; cell++) {
                if (state.isAsked(cell) && cell != leftOut && !isFitted(cell, row)) {
                    return cell;
                }
            }
            return NONE;
        }

        private boolean isFitted(int cell, int row) {
            Example example = state.exampleOf(cell);
            int column = cell % MOST_COLUMNS;
            int value = state.entry(cell, row);
            int kind = example.kindAt(column);
            if (kind < LETTER) {
                return example.takesAlone(column, value);
            }
            // A letter that is told by no cell is as one that is told by a blank.
            int told = state.entry(tellers.at(example.firstAt(column)), row);
            if (value == BLANK || told == BLANK) {
                return false;
            }
            if (kind == LETTER) {
                return value == told;
            }
            return kind == BELOW_LETTER ? value < told : value > told;
        }

        /** The row at an index of those found last, in their order. */
        int inOrder(int index) {
            // By insertion, since rows that are alike by the orders must keep their places.
            for (int i = 1; i < size; i++) {
                int row = found.at(i);
                int place = i;
                while (place > 0 && isAhead(row, found.at(place - 1))) {
                    found.set(place, found.at(place - 1));
                    place--;
                }
                found.set(place, row);
            }
            return found.at(index);
        }

        private boolean isAhead(int row, int other) {
            int difference = compareBy(0, row, other);
            if (difference == 0) {
                difference = compareBy(1, row, other);
            }
            return difference < 0;
        }

        private int compareBy(int order, int row, int other) {
            int column = state.orderColumn(order);
            if (!state.isAsked(column)) {
                return 0;
            }
            int difference = state.entry(column, row) - state.entry(column, other);
            return state.isDownwards(order) ? -difference : difference;
        }

        int sumUp(int column, int what) {
            find(NONE);
            marks.fill(0);
            int values = 0;
            int sum = 0;
            int least = NOT_FOUND;
            int greatest = NOT_FOUND;
            int unlike = 0;
            for (int i = 0; i < size; i++) {
                int value = state.entry(column, found.at(i));
                if (value != BLANK) {
                    least = values == 0 ? value : Math.min(least, value);
                    greatest = values == 0 ? value : Math.max(greatest, value);
                    unlike += markNew(value);
                    sum += value;
                    values++;
                }
            }
            switch (what) {
                case 0:
                    return values;
                case 1:
                    return sum;
                case 2:
                    return least;
                case 3:
                    return greatest;
                default:
                    return unlike;
            }
        }

        /** Marks a place; 1 if it had no mark, otherwise 0. */
        private int markNew(int place) {
            int isNew = marks.at(place) == 0 ? 1 : 0;
            marks.set(place, 1);
            return isNew;
        }

        int countUnlike() {
            find(NONE);
            marks.fill(0);
            int unlike = 0;
            for (int i = 0; i < size; i++) {
                int row = found.at(i);
                // Rows are alike just if their cards are, so the first cards stand for them.
                int first = firstAlike(0, row / MOST_CARDS);
                int second = firstAlike(1, row % MOST_CARDS);
                unlike += markNew(first * MOST_CARDS + second);
            }
            return unlike;
        }

        /** The first card of a drawer that is shown as a card of it is. */
        private int firstAlike(int drawer, int card) {
            for (int other = 0; other < card; other++) {
                if (isAlike(drawer, other, card)) {
                    return other;
                }
            }
            return card;
        }

        private boolean isAlike(int drawer, int card, int other) {
            Drawer cards = state.drawer(drawer);
            for (int column = 0; column < MOST_COLUMNS; column++) {
                boolean same = cards.entry(card, column) == cards.entry(other, column);
                if (!same && state.isShown(drawer * MOST_COLUMNS + column)) {
                    return false;
                }
            }
            return true;
        }

        int cardSet(int drawer) {
            find(NONE);
            int set = 0;
            for (int i = 0; i < size; i++) {
                int row = found.at(i);
                set |= 1 << (drawer == 0 ? row / MOST_CARDS : row % MOST_CARDS);
            }
            return set;
        }
    }

    /** The characters that were typed. */
    private static final class Text {
        private final Numbers characters = new Numbers(MOST_CHARACTERS, 0);
        private int length = 0;

        int length() {
            return length;
        }

        /** The character at a place, NONE behind the end. */
        int characterAt(int place) {
            return place < length ? characters.at(place) : NONE;
        }

        int append(int character) {
            characters.set(length, character);
            length++;
            return length;
        }

        int empty() {
            int before = length;
            length = 0;
            return before;
        }
    }

    /** Reads a text as an example, up to its end or to its fault. */
    private static final class Reading {
        private final Text text;
        private final Example example = new Example();
        private int cells = 0;
        private int place = 0;
        private int faultPlace = 0;
        private int faultReason = 0;

        Reading(Text text) {
            this.text = text;
        }

        boolean hasFault() {
            return faultReason != 0;
        }

        int faultPlace() {
            return faultPlace;
        }

        int faultReason() {
            return faultReason;
        }

        int cells() {
            return cells;
        }

        Example example() {
            return example;
        }

        void start() {
            example.wipe();
            cells = 0;
            place = 0;
            faultPlace = 0;
            faultReason = 0;
            boolean goesOn = true;
            while (goesOn && cells < MOST_COLUMNS) {
                readCell(text.characterAt(place));
                cells++;
                goesOn = !hasFault() && readComma();
            }
        }

        /** Whether another cell is due behind the one that was read. */
        private boolean readComma() {
            if (place >= text.length()) {
                return false;
            }
            if (text.characterAt(place) != ',') {
                fail(place, WRONG_CHARACTER);
            } else if (cells >= MOST_COLUMNS) {
                fail(place, FIFTH_CELL);
            }
            place++;
            return !hasFault();
        }

        private void readCell(int character) {
            if (isDigit(character)) {
                readNumbers();
                return;
            }
            int start = place;
            place++;
            switch (character) {
                case '*':
                    break;
                case '_':
                    example.fill(cells, A_BLANK, 0, 0);
                    break;
                case '!':
                    example.fill(cells, ANY_VALUE, 0, 0);
                    break;
                case '#':
                    example.fill(cells, OTHER, readNumber(), 0);
                    break;
                case '<':
                    readBound(BELOW, BELOW_LETTER);
                    break;
                case '>':
                    readBound(ABOVE, ABOVE_LETTER);
                    break;
                default:
                    if (isLetter(character)) {
                        example.fill(cells, LETTER, character - 'w', 0);
                    } else {
                        fail(start, WRONG_CHARACTER);
                    }
                    break;
            }
        }

        private void readNumbers() {
            int start = place;
            int a = readNumber();
            if (text.characterAt(place) != '-') {
                example.fill(cells, EQUAL, a, 0);
                return;
            }
            place++;
            int b = readNumber();
            if (!hasFault() && b < a) {
                fail(start, FALLING_NUMBERS);
            }
            example.fill(cells, BETWEEN, a, b);
        }

        private void readBound(int kindOfNumber, int kindOfLetter) {
            int character = text.characterAt(place);
            if (isLetter(character)) {
                place++;
                example.fill(cells, kindOfLetter, character - 'w', 0);
            } else {
                example.fill(cells, kindOfNumber, readNumber(), 0);
            }
        }

        /** A number of one or two digits; without a digit there is a fault. */
        private int readNumber() {
            int character = text.characterAt(place);
            if (!isDigit(character)) {
                fail(place, WRONG_CHARACTER);
                return 0;
            }
            int number = character - '0';
            place++;
            int next = text.characterAt(place);
            if (isDigit(next)) {
                number = 10 * number + next - '0';
                place++;
            }
            return number;
        }

        private void fail(int atPlace, int reason) {
            faultPlace = atPlace;
            faultReason = reason;
        }

        private static boolean isDigit(int character) {
            return character >= '0' && character <= '9';
        }

        private static boolean isLetter(int character) {
            return character >= 'w' && character <= 'z';
        }
    }
}
