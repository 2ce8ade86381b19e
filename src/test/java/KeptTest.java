/** Promises 49 and 50: what is kept, and comes again. */
public final class KeptTest {
    private static final Due due = new Due("KeptTest");

    public static void main(String[] args) {
        nothingKept();
        allKept();
        notKept();
        keptEmpty();
        due.end();
    }

    private static void nothingKept() {
        LampThatFollows x = Due.dancing(1, 2);
        x.lamp(1, 1, 1, 1);
        due.is("again", x.again(), -3);
        due.is("nothing changed", x.many(0), 1);
        due.is("nothing changed", x.many(2), 2);
    }

    private static void allKept() {
        LampThatFollows x = Due.dancing(10, 20, 30);
        x.lamp(1, 10, 2, 3);
        x.lamp(3, 11, 3, 4);
        x.report(1, 20, 0, 2);
        x.seed(77);
        Due.rules(x, "old wait;steady if 2 > 1 lag 1;");
        x.beat();
        int score = x.state(2);
        due.is("keep", x.keep(), 1);
        for (int round = 0; round < 3; round++) {
            x.lamp(2, 5, 5, 5);
            x.change(0, 1, 40);
            x.change(0, 2, 9);
            x.change(0, 3, 9);
            x.remake(0, 5);
            x.steps(2, 0);
            x.dance(7);
            x.lot();
            x.beat();
            x.report(2, 2, 2, 2);
            Due.rules(x, "hand lead 9;");
            if (round == 1) {
                x.forget();
                x.report(9, 9, 9, 0);
                x.anew();
                Due.rules(x, "");
            }
            due.is("again", x.again(), 2);
            due.is("lamps", x.many(0), 2);
            due.is("rules", x.many(1), 2);
            due.is("beats", x.many(2), 3);
            due.is("reports", x.many(3), 1);
            due.is("beat", x.state(0), 1);
            due.is("score", x.state(2), score);
            due.is("z", x.seed(77), 77);
            int[] places = {10, 20, 30};
            for (int b = 0; b < 3; b++) due.is("places", x.danceOf(b), places[b]);
            int[] first = {1, 10, 2, 3, 10, 10};
            int[] second = {3, 9, 3, 4, 10, 11};
            for (int what = 0; what < 6; what++) {
                due.is("lamp 0", x.lampOf(0, what), first[what]);
                due.is("lamp 1", x.lampOf(1, what), second[what]);
            }
            due.is("walks", x.span(0), 5);
            due.is("walks", x.span(1), 18);
        }
        x.remake(0, 4);
        due.is("the rules that were kept", x.lampOf(0, 4), 41);
        x.lamp(1, 1, 1, 1);
        due.is("keep later", x.keep(), 1);
        x.anew();
        due.is("the latest", x.again(), 3);
        due.is("the latest", x.lampOf(0, 0), 4);
    }

    private static void notKept() {
        LampThatFollows x = Due.dancing(10, 20, 30);
        x.lamp(1, 10, 2, 3);
        x.sheet(0, 0, 2);
        x.write(0, 1, 5);
        x.shelf(0, 0, 0);
        x.prove(2);
        x.act(0, 0, 1);
        Due.feed(x, "old");
        x.keep();
        Due.feed(x, " wait;");
        x.write(0, 1, 6);
        x.sheet(1, 2, 3);
        x.shelf(1, 1, 1);
        x.shelf(0, 2, 0);
        x.prove(3);
        x.alterRow(0, 1, 55);
        x.shelf(2, 0, 0);
        x.act(2, 1, 1);
        due.is("again", x.again(), 1);
        due.is("tape", x.many(5), 9);
        due.is("sheet 0", x.item(0, 0, 1), 6);
        due.is("sheet 1", x.item(1, 2, 1), 0);
        due.is("shelf 0", x.taken(0, 0), -11);
        due.is("shelf 1", x.taken(1, 12), 3);
        due.is("rows", x.many(4), 3);
        due.is("row", x.row(0, 1), 55);
        due.is("trace", x.many(6), 3);
        due.is("trace", x.trace(1), 20);
        due.is("rules", x.rules(), 1);
    }

    private static void keptEmpty() {
        LampThatFollows x = new LampThatFollows();
        x.keep();
        x.lamp(1, 1, 1, 1);
        x.dance(4);
        Due.rules(x, "old wait;");
        x.report(1, 1, 1, 1);
        x.seed(5);
        due.is("again, no lamps", x.again(), 0);
        for (int what = 0; what < 4; what++) due.is("nothing", x.many(what), 0);
        due.is("z", x.seed(1), 1);
        due.is("over", x.state(3), 1);
    }
}
