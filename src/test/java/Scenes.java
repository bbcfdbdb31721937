/** States that the tests of boundaries begin with. */
final class Scenes {
    private Scenes() { }

    static void untouched(ExampleDrawers x) {
        x.many();
    }

    /** Two cards in the drawer 0, one in the drawer 1; three states. */
    static void few(ExampleDrawers x) {
        x.card(0, 5, -1, 7, 0);
        x.card(0, 5, 8, 0, 0);
        x.card(1, 99, 0, 5, 0);
    }

    /** Two columns and four, cells, orders, a set and a text; four states, all of them apart. */
    static void asked(ExampleDrawers x) {
        x.columns(0, 2);
        x.columns(1, 4);
        x.card(0, 5, -1, 0, 0);
        x.card(0, 5, 8, 0, 0);
        x.card(0, 6, 8, 0, 0);
        x.card(1, 4, 5, 6, 7);
        x.card(1, 6, -1, 8, 99);
        x.cell(0, 0, 8, 1, 0);
        x.cell(1, 0, 9, 1, 0);
        x.cell(1, 3, 7, 7, 99);
        Bounds.write(x, "5-7,>w,_");
        x.both(1);
        x.order(0, 4, 1);
        x.order(1, 1, 0);
        x.show(0b10011);
    }

    /** Four columns and twelve cards in each drawer, all of them apart; both are asked. */
    static void full(ExampleDrawers x) {
        x.columns(0, 4);
        x.columns(1, 4);
        for (int card = 0; card < 12; card++) {
            x.card(0, card, 20 - card, 7, card == 3 ? -1 : 99);
            x.card(1, 90 + card % 3, card, card, 50 + card);
        }
        x.both(1);
    }
}
