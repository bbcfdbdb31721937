import java.util.ArrayList;
import java.util.Comparator;
import java.util.HashSet;
import java.util.List;
import java.util.Set;
import java.util.TreeSet;
import java.util.regex.Matcher;
import java.util.regex.Pattern;

/**
 * The document once more, built otherwise and with the whole Java library: each answer is taken
 * straight from the words, without any thought of speed.
 */
final class Model {
    private static final int INVALID = -11;
    private static final int IMPOSSIBLE = -12;
    private static final int LIMIT = -13;
    private static final int MISSING = -14;

    private static final String CELL = "(?:[*_!w-z]|[0-9]{1,2}(?:-[0-9]{1,2})?|#[0-9]{1,2}"
            + "|[<>](?:[0-9]{1,2}|[w-z]))";
    private static final Pattern EXAMPLE = Pattern.compile(CELL + "(?:," + CELL + ")*");

    /** A cell as the document tells it: a kind and two numbers. */
    private record Cell(int kind, int a, int b) { }

    /** A pair of cards; of the drawer 0 alone the second is -1. */
    private record Row(int first, int second) { }

    private List<List<List<Integer>>> cards = List.of(new ArrayList<>(), new ArrayList<>());
    private List<List<Cell>> cells = List.of(blankCells(3), blankCells(3));
    private boolean both = false;
    private List<Integer> orderColumns = new ArrayList<>(List.of(-1, -1));
    private List<Integer> orderDowns = new ArrayList<>(List.of(0, 0));
    private int shown = 255;
    private String text = "";
    private final List<Model> history = new ArrayList<>();

    private static List<Cell> blankCells(int many) {
        List<Cell> all = new ArrayList<>();
        for (int i = 0; i < many; i++) {
            all.add(new Cell(0, 0, 0));
        }
        return all;
    }

    private void take(Model from) {
        List<List<List<Integer>>> newCards = new ArrayList<>();
        List<List<Cell>> newCells = new ArrayList<>();
        for (int drawer = 0; drawer < 2; drawer++) {
            List<List<Integer>> copies = new ArrayList<>();
            for (List<Integer> card : from.cards.get(drawer)) {
                copies.add(new ArrayList<>(card));
            }
            newCards.add(copies);
            newCells.add(new ArrayList<>(from.cells.get(drawer)));
        }
        cards = newCards;
        cells = newCells;
        both = from.both;
        orderColumns = new ArrayList<>(from.orderColumns);
        orderDowns = new ArrayList<>(from.orderDowns);
        shown = from.shown;
    }

    private void change() {
        Model before = new Model();
        before.take(this);
        history.add(before);
        if (history.size() == 5) {
            history.remove(0);
        }
    }

    private static boolean in(int number, int least, int greatest) {
        return least <= number && number <= greatest;
    }

    private boolean isColumn(int drawer, int column) {
        return in(drawer, 0, 1) && in(column, 0, cells.get(drawer).size() - 1);
    }

    private boolean isCard(int drawer, int card) {
        return in(drawer, 0, 1) && in(card, 0, cards.get(drawer).size() - 1);
    }

    int columns(int drawer, int many) {
        if (!in(drawer, 0, 1) || !in(many, 1, 4)) {
            return INVALID;
        }
        change();
        int gone = cards.get(drawer).size();
        cards = drawer == 0 ? List.of(new ArrayList<>(), cards.get(1))
                : List.of(cards.get(0), new ArrayList<>());
        cells = drawer == 0 ? List.of(blankCells(many), cells.get(1))
                : List.of(cells.get(0), blankCells(many));
        return gone;
    }

    int card(int drawer, int a, int b, int c, int d) {
        if (!in(drawer, 0, 1)) {
            return INVALID;
        }
        for (int value : new int[] {a, b, c, d}) {
            if (!in(value, -1, 99)) {
                return INVALID;
            }
        }
        if (cards.get(drawer).size() == 12) {
            return LIMIT;
        }
        change();
        List<Integer> all = List.of(a, b, c, d);
        cards.get(drawer).add(new ArrayList<>(all.subList(0, cells.get(drawer).size())));
        return cards.get(drawer).size() - 1;
    }

    int put(int drawer, int card, int column, int value) {
        if (!isCard(drawer, card) || !isColumn(drawer, column) || !in(value, -1, 99)) {
            return INVALID;
        }
        change();
        return cards.get(drawer).get(card).set(column, value);
    }

    int drop(int drawer, int card) {
        if (!isCard(drawer, card)) {
            return INVALID;
        }
        change();
        cards.get(drawer).remove(card);
        return cards.get(drawer).size();
    }

    int valueOf(int drawer, int card, int column) {
        if (!isCard(drawer, card) || !isColumn(drawer, column)) {
            return INVALID;
        }
        return cards.get(drawer).get(card).get(column);
    }

    int cell(int drawer, int column, int kind, int a, int b) {
        if (!isColumn(drawer, column) || !in(kind, 0, 10)) {
            return INVALID;
        }
        boolean isA = kind <= 2 ? a == 0 : kind <= 7 ? in(a, 0, 99) : in(a, 0, 3);
        boolean isB = kind == 7 ? in(b, a, 99) : b == 0;
        if (!isA || !isB) {
            return INVALID;
        }
        change();
        return cells.get(drawer).set(column, new Cell(kind, a, b)).kind;
    }

    private int others(int drawer) {
        return (int) cells.get(drawer).stream().filter(each -> each.kind != 0).count();
    }

    int clear(int drawer) {
        if (!in(drawer, 0, 1)) {
            return INVALID;
        }
        change();
        int before = others(drawer);
        cells.get(drawer).replaceAll(each -> new Cell(0, 0, 0));
        return before;
    }

    int both(int is) {
        if (!in(is, 0, 1)) {
            return INVALID;
        }
        change();
        int before = both ? 1 : 0;
        both = is == 1;
        return before;
    }

    int order(int which, int column, int down) {
        if (!in(which, 0, 1) || !in(column, -1, 7) || !in(down, 0, 1)) {
            return INVALID;
        }
        change();
        orderColumns.set(which, column);
        orderDowns.set(which, down);
        return many();
    }

    int show(int set) {
        if (!in(set, 0, 255)) {
            return INVALID;
        }
        change();
        shown = set;
        return unlike();
    }

    int cellOf(int drawer, int column, int what) {
        if (!isColumn(drawer, column) || !in(what, 0, 3)) {
            return INVALID;
        }
        Cell cell = cells.get(drawer).get(column);
        if (what < 3) {
            return what == 0 ? cell.kind : what == 1 ? cell.a : cell.b;
        }
        int fitting = 0;
        for (List<Integer> card : cards.get(drawer)) {
            int value = card.get(column);
            boolean fits = cell.kind == 8 ? value != -1 : cell.kind < 8 && fitsPlainly(cell, value);
            fitting += fits ? 1 : 0;
        }
        return fitting;
    }

    private static boolean fitsPlainly(Cell cell, int value) {
        boolean is = value != -1;
        return switch (cell.kind) {
            case 0 -> true;
            case 1 -> !is;
            case 2 -> is;
            case 3 -> is && value == cell.a;
            case 4 -> is && value != cell.a;
            case 5 -> is && value < cell.a;
            case 6 -> is && value > cell.a;
            case 7 -> is && value >= cell.a && value <= cell.b;
            default -> throw new IllegalStateException();
        };
    }

    /** The columns that are asked and that there are, as 4 times the drawer plus the column. */
    private List<Integer> asked() {
        List<Integer> all = new ArrayList<>();
        for (int drawer = 0; drawer < (both ? 2 : 1); drawer++) {
            for (int column = 0; column < cells.get(drawer).size(); column++) {
                all.add(4 * drawer + column);
            }
        }
        return all;
    }

    private Cell cellAt(int place) {
        return cells.get(place / 4).get(place % 4);
    }

    private int valueAt(Row row, int place) {
        return cards.get(place / 4).get(place < 4 ? row.first : row.second).get(place % 4);
    }

    /** The place that tells a letter, or -1. */
    private int teller(int letter) {
        for (int place : asked()) {
            if (cellAt(place).kind == 8 && cellAt(place).a == letter) {
                return place;
            }
        }
        return -1;
    }

    private boolean fitsAt(Row row, int place) {
        Cell cell = cellAt(place);
        int value = valueAt(row, place);
        if (cell.kind < 8) {
            return fitsPlainly(cell, value);
        }
        int teller = teller(cell.a);
        if (teller == -1 || value == -1 || valueAt(row, teller) == -1) {
            return false;
        }
        int compared = Integer.signum(value - valueAt(row, teller));
        return compared == (cell.kind == 8 ? 0 : cell.kind == 9 ? -1 : 1);
    }

    private int misfit(Row row) {
        for (int place : asked()) {
            if (!fitsAt(row, place)) {
                return place;
            }
        }
        return -1;
    }

    private List<Row> fitting() {
        List<Row> all = new ArrayList<>();
        for (int first = 0; first < cards.get(0).size(); first++) {
            if (both) {
                for (int second = 0; second < cards.get(1).size(); second++) {
                    all.add(new Row(first, second));
                }
            } else {
                all.add(new Row(first, -1));
            }
        }
        all.removeIf(row -> misfit(row) != -1);
        return all;
    }

    private List<Row> ordered() {
        List<Row> all = fitting();
        // The second order first: the sort is stable, so the first one goes ahead.
        for (int which = 1; which >= 0; which--) {
            int column = orderColumns.get(which);
            if (asked().contains(column)) {
                Comparator<Row> upwards = Comparator.comparingInt(row -> valueAt(row, column));
                all.sort(orderDowns.get(which) == 1 ? upwards.reversed() : upwards);
            }
        }
        return all;
    }

    int many() {
        return fitting().size();
    }

    int row(int index, int what) {
        if (index < 0 || !(in(what, 0, 1) || in(what, 10, 17) || in(what, 20, 23))) {
            return INVALID;
        }
        List<Row> all = ordered();
        if (index >= all.size()) {
            return MISSING;
        }
        Row row = all.get(index);
        if (what < 2) {
            return what == 0 ? row.first : both ? row.second : MISSING;
        }
        int place = what < 20 ? what - 10 : teller(what - 20);
        return asked().contains(place) ? valueAt(row, place) : MISSING;
    }

    int total(int column, int what) {
        if (!in(column, 0, 7) || !in(what, 0, 4)) {
            return INVALID;
        }
        if (!asked().contains(column)) {
            return MISSING;
        }
        List<Integer> values = new ArrayList<>();
        for (Row row : fitting()) {
            values.add(valueAt(row, column));
        }
        values.removeIf(value -> value == -1);
        TreeSet<Integer> unlike = new TreeSet<>(values);
        if (what == 0 || what == 4) {
            return what == 0 ? values.size() : unlike.size();
        }
        if (what == 1) {
            return values.stream().mapToInt(value -> value).sum();
        }
        return unlike.isEmpty() ? MISSING : what == 2 ? unlike.first() : unlike.last();
    }

    int unlike() {
        Set<List<Integer>> unlike = new HashSet<>();
        for (Row row : fitting()) {
            List<Integer> seen = new ArrayList<>();
            for (int place : asked()) {
                if ((shown & 1 << place) != 0) {
                    seen.add(valueAt(row, place));
                }
            }
            unlike.add(seen);
        }
        return unlike.size();
    }

    int cards(int drawer) {
        if (!in(drawer, 0, 1)) {
            return INVALID;
        }
        if (drawer == 1 && !both) {
            return IMPOSSIBLE;
        }
        return fitting().stream().mapToInt(row -> 1 << (drawer == 0 ? row.first : row.second))
                .reduce(0, (one, other) -> one | other);
    }

    int why(int first, int second) {
        if (!isCard(0, first) || !(both ? isCard(1, second) : second == 0)) {
            return INVALID;
        }
        int place = misfit(new Row(first, second));
        return place == -1 ? MISSING : place;
    }

    int tightest(int what) {
        if (!in(what, 0, 1)) {
            return INVALID;
        }
        int most = many();
        int best = MISSING;
        for (int place : asked()) {
            Cell before = cells.get(place / 4).set(place % 4, new Cell(0, 0, 0));
            int then = many();
            cells.get(place / 4).set(place % 4, before);
            if (then > most) {
                most = then;
                best = place;
            }
        }
        return best == MISSING || what == 0 ? best : most;
    }

    int count(int what) {
        return switch (what) {
            case 0, 1 -> cards.get(what).size();
            case 2, 3 -> cells.get(what - 2).size();
            case 4 -> both ? 1 : 0;
            case 5 -> others(0) + others(1);
            case 6 -> shown;
            case 7 -> history.size();
            case 8 -> text.length();
            case 10, 11 -> orderColumns.get(what - 10);
            case 12, 13 -> orderDowns.get(what - 12);
            default -> INVALID;
        };
    }

    int undo() {
        if (history.isEmpty()) {
            return IMPOSSIBLE;
        }
        take(history.remove(history.size() - 1));
        return history.size();
    }

    int type(int character) {
        if (!in(character, 32, 126)) {
            return INVALID;
        }
        if (text.length() == 60) {
            return LIMIT;
        }
        text += (char) character;
        return text.length();
    }

    int clearText() {
        int before = text.length();
        text = "";
        return before;
    }

    /** Whether any example, of however many cells, begins so. */
    private static boolean begins(String start) {
        Matcher matcher = EXAMPLE.matcher(start);
        return matcher.matches() || matcher.hitEnd();
    }

    /** The place and the reason of the fault, or null. */
    private int[] faultOf() {
        int good = 0;
        while (good < text.length() && begins(text.substring(0, good + 1))) {
            good++;
        }
        boolean whole = good == text.length() && EXAMPLE.matcher(text).matches();
        List<int[]> faults = new ArrayList<>();
        if (!whole) {
            faults.add(new int[] {good, 1});
        }
        int start = 0;
        int commas = 0;
        for (int i = 0; i <= good; i++) {
            if (i == good || text.charAt(i) == ',') {
                Matcher pair = Pattern.compile("([0-9]+)-([0-9]+)")
                        .matcher(text.substring(start, i));
                if (pair.matches()
                        && Integer.parseInt(pair.group(1)) > Integer.parseInt(pair.group(2))) {
                    faults.add(new int[] {start, 2});
                }
                start = i + 1;
                commas++;
                if (commas == 4 && i < good) {
                    faults.add(new int[] {i, 3});
                }
            }
        }
        return faults.stream().min(Comparator.comparingInt(fault -> fault[0])).orElse(null);
    }

    int fault(int what) {
        if (!in(what, 0, 1)) {
            return INVALID;
        }
        int[] fault = faultOf();
        return fault == null ? MISSING : fault[what];
    }

    private static Cell cellOfText(String cell) {
        String signs = "*_!";
        char first = cell.charAt(0);
        if (signs.indexOf(first) >= 0) {
            return new Cell(signs.indexOf(first), 0, 0);
        }
        if (first >= 'w') {
            return new Cell(8, first - 'w', 0);
        }
        if (Character.isDigit(first)) {
            String[] numbers = cell.split("-");
            int a = Integer.parseInt(numbers[0]);
            return numbers.length == 1 ? new Cell(3, a, 0)
                    : new Cell(7, a, Integer.parseInt(numbers[1]));
        }
        String rest = cell.substring(1);
        if (rest.charAt(0) >= 'w') {
            return new Cell(first == '<' ? 9 : 10, rest.charAt(0) - 'w', 0);
        }
        return new Cell(first == '#' ? 4 : first == '<' ? 5 : 6, Integer.parseInt(rest), 0);
    }

    int read(int drawer) {
        if (!in(drawer, 0, 1)) {
            return INVALID;
        }
        String[] told = text.split(",");
        int width = cells.get(drawer).size();
        if (faultOf() != null || told.length > width) {
            return IMPOSSIBLE;
        }
        change();
        for (int column = 0; column < width; column++) {
            cells.get(drawer).set(column,
                    column < told.length ? cellOfText(told[column]) : new Cell(0, 0, 0));
        }
        return many();
    }
}
