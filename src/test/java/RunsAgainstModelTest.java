/** Long runs of calls, always the same ones, whose answers are compared with the model's. */
public final class RunsAgainstModelTest {
    private static final Due DUE = new Due("RunsAgainstModelTest");
    private static final int RUNS = 3000;
    private static final int CALLS = 512;
    private static final int[] ODD = {Integer.MIN_VALUE, Integer.MAX_VALUE, -2, -1, 4, 8, 12, 60,
        99, 100, 127, 256};
    private static final String SIGNS = "*_!#<>-,0123456789wxyz";
    private static final String[] CELLS = {"*", "_", "!", "2", "#1", "<2", ">0", "0-2", "2-1", "w",
        "x", "<w", ">w", "<x", ">x", "03", "1-", "<", "10-9", "z"};

    private static long seed = 1;

    public static void main(String[] args) {
        for (int run = 0; run < RUNS && !DUE.isWrong(); run++) {
            DUE.part("run " + run);
            seed = 7919L * run + 1;
            run(1 + below(6));
        }
        DUE.end();
    }

    private static int below(int bound) {
        seed = seed * 6364136223846793005L + 1442695040888963407L;
        return (int) Math.floorMod(seed >>> 33, (long) bound);
    }

    /** Mostly a number from least to greatest, now and then one far or just outside. */
    private static int from(int least, int greatest) {
        int chance = below(40);
        if (chance == 0) {
            return ODD[below(ODD.length)];
        }
        if (chance == 1) {
            return below(2) == 0 ? least - 1 : greatest + 1;
        }
        return least + below(greatest - least + 1);
    }

    private static void run(int values) {
        ExampleDrawers x = new ExampleDrawers();
        Model model = new Model();
        int made = 0;
        while (made < CALLS && !DUE.isWrong()) {
            int kind = below(100);
            if (kind < 18) {
                addCards(x, model, values);
            } else if (kind < 40) {
                ask(x, model, values);
            } else if (kind < 55) {
                write(x, model);
            } else {
                answer(x, model);
            }
            made++;
        }
    }

    private static void compare(String name, int[] arguments, int got, int want) {
        if (got == want) {
            DUE.is(name, got, want);
            return;
        }
        StringBuilder call = new StringBuilder(name);
        for (int argument : arguments) {
            call.append(' ').append(argument);
        }
        DUE.is(call.toString(), got, want);
    }

    private static void addCards(ExampleDrawers x, Model model, int values) {
        int drawer = from(0, 1);
        int which = below(20);
        if (which == 0) {
            int many = from(1, 4);
            compare("columns", new int[] {drawer, many}, x.columns(drawer, many),
                    model.columns(drawer, many));
        } else if (which < 12) {
            int[] v = {from(-1, values), from(-1, values), from(-1, values), from(-1, values)};
            compare("card", v, x.card(drawer, v[0], v[1], v[2], v[3]),
                    model.card(drawer, v[0], v[1], v[2], v[3]));
        } else if (which < 16) {
            int[] v = {drawer, below(13), from(0, 2), from(-1, values)};
            compare("put", v, x.put(v[0], v[1], v[2], v[3]), model.put(v[0], v[1], v[2], v[3]));
        } else if (which < 18) {
            int card = below(13);
            compare("drop", new int[] {drawer, card}, x.drop(drawer, card),
                    model.drop(drawer, card));
        } else {
            compare("undo", new int[0], x.undo(), model.undo());
        }
    }

    private static void ask(ExampleDrawers x, Model model, int values) {
        int which = below(16);
        if (which < 8) {
            int kind = from(0, 10);
            int a = kind < 3 ? from(0, 0) : kind > 7 ? from(0, below(3)) : from(0, values);
            int least = Math.max(0, Math.min(a, 99));
            int b = kind == 7 ? from(least, least + values) : from(0, 0);
            int[] v = {from(0, 1), from(0, 2), kind, a, b};
            compare("cell", v, x.cell(v[0], v[1], v[2], v[3], v[4]),
                    model.cell(v[0], v[1], v[2], v[3], v[4]));
        } else if (which == 8) {
            int drawer = from(0, 1);
            compare("clear", new int[] {drawer}, x.clear(drawer), model.clear(drawer));
        } else if (which < 11) {
            int is = below(3) == 0 ? from(0, 1) : 1;
            compare("both", new int[] {is}, x.both(is), model.both(is));
        } else if (which < 14) {
            int[] v = {from(0, 1), from(-1, 7), from(0, 1)};
            compare("order", v, x.order(v[0], v[1], v[2]), model.order(v[0], v[1], v[2]));
        } else {
            int set = from(0, 255);
            compare("show", new int[] {set}, x.show(set), model.show(set));
        }
    }

    private static void write(ExampleDrawers x, Model model) {
        if (below(4) == 0) {
            compare("clearText", new int[0], x.clearText(), model.clearText());
        }
        StringBuilder text = new StringBuilder();
        int pieces = below(5);
        for (int piece = 0; piece < pieces; piece++) {
            text.append(piece == 0 ? "" : ",").append(CELLS[below(CELLS.length)]);
        }
        if (below(4) == 0) {
            text.append(SIGNS.charAt(below(SIGNS.length())));
        }
        for (int i = 0; i < text.length(); i++) {
            int character = from(text.charAt(i), text.charAt(i));
            compare("type", new int[] {character}, x.type(character), model.type(character));
        }
        int what = from(0, 1);
        compare("fault", new int[] {what}, x.fault(what), model.fault(what));
        compare("fault", new int[] {1 - what}, x.fault(1 - what), model.fault(1 - what));
        if (below(2) == 0) {
            int drawer = from(0, 1);
            compare("read", new int[] {drawer}, x.read(drawer), model.read(drawer));
        }
    }

    private static void answer(ExampleDrawers x, Model model) {
        int one = 0;
        int two = 0;
        switch (below(9)) {
            case 0:
                compare("many", new int[0], x.many(), model.many());
                compare("unlike", new int[0], x.unlike(), model.unlike());
                break;
            case 1:
            case 2:
                one = from(0, Math.max(model.many(), 1));
                int[] questions = {0, 1, 10 + below(8), 20 + below(4), from(0, 24)};
                for (int what : questions) {
                    compare("row", new int[] {one, what}, x.row(one, what), model.row(one, what));
                }
                break;
            case 3:
                one = from(0, 7);
                two = from(0, 4);
                compare("total", new int[] {one, two}, x.total(one, two), model.total(one, two));
                break;
            case 4:
                one = from(0, 1);
                compare("cards", new int[] {one}, x.cards(one), model.cards(one));
                break;
            case 5:
                one = from(0, 4);
                two = below(2) == 0 ? 0 : from(0, 4);
                compare("why", new int[] {one, two}, x.why(one, two), model.why(one, two));
                break;
            case 6:
                one = from(0, 1);
                compare("tightest", new int[] {one}, x.tightest(one), model.tightest(one));
                break;
            case 7:
                one = from(0, 13);
                compare("count", new int[] {one}, x.count(one), model.count(one));
                break;
            default:
                int drawer = from(0, 1);
                one = from(0, 3);
                two = from(0, 3);
                compare("cellOf", new int[] {drawer, one, two}, x.cellOf(drawer, one, two),
                        model.cellOf(drawer, one, two));
                compare("valueOf", new int[] {drawer, one, two}, x.valueOf(drawer, one, two),
                        model.valueOf(drawer, one, two));
                break;
        }
    }
}
