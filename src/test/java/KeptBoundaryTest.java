/** The boundary cases that promises 49 and 50 name: what is kept, what is not, and what comes again. */
public final class KeptBoundaryTest {
    private static final Due due = new Due("KeptBoundaryTest");

    public static void main(String[] args) {
        promise49TheMostThatMayBe();
        promise49Nothing();
        promise49AllBut();
        promise49RulesAndReportsOfTheTime();
        promise50NothingIsKept();
        promise50TheLatest();
        promise50WhichStays();
        promise50FromThereOn();
        due.end();
    }

    private static LampThatFollows full() {
        LampThatFollows x = new LampThatFollows();
        for (int b = 0; b < 16; b++) x.dance(b + 5);
        for (int l = 0; l < 6; l++) x.lamp(1 + l % 5, 5 * l, l, l + 1);
        Due.rules(x, "old if aim=41 wait;".repeat(7) + "steady if number=5 wait;");
        for (int r = 0; r < 5; r++) x.report(r, 10 + r, 0, 2);
        // at its rim alone, so that each of its numbers counts
        x.report(5, 17, 1, 1);
        x.seed(-9);
        return x;
    }

    private static void isFull(LampThatFollows x) {
        int[] many = {6, 8, 16, 6};
        for (int what = 0; what < 4; what++) due.is("how many of " + what, x.many(what), many[what]);
        due.is("z", x.seed(-9), -9);
        due.is("beat", x.state(0), 3);
        due.is("score", x.state(2), 17 + 30 + 30);
        for (int b = 0; b < 16; b++) due.is("place", x.danceOf(b), b + 5);
        int[] aims = {3, 6, 6, 7, 8, 25};
        for (int l = 0; l < 6; l++) {
            due.is("kind", x.lampOf(l, 0), 1 + l % 5);
            due.is("aim", x.lampOf(l, 1), aims[l]);
            due.is("size", x.lampOf(l, 2), l);
            due.is("step", x.lampOf(l, 3), l + 1);
            due.is("goal", x.lampOf(l, 4), l == 5 ? 41 : 7);
        }
        due.is("walks", x.span(0), 1);
        due.is("start", x.span(1), 10);
        due.is("pace", x.span(2), 3);
    }

    private static void promise49TheMostThatMayBe() {
        LampThatFollows x = full();
        for (int b = 0; b < 3; b++) x.beat();
        isFull(x);
        due.is("keep", x.keep(), 1);
        for (int l = 0; l < 6; l++) {
            x.change(l, 1, 40);
            x.change(l, 2, 9);
            x.change(l, 3, 9);
            x.remake(l, 2);
        }
        for (int b = 3; b < 16; b++) x.steps(b, 0);
        for (int b = 0; b < 9; b++) x.lot();
        x.forget();
        for (int r = 0; r < 6; r++) x.report(15 - r, 40, 9, 0);
        Due.rules(x, "nervous lead 3;".repeat(8));
        due.is("again", x.again(), 6);
        isFull(x);
    }

    private static void promise49Nothing() {
        LampThatFollows x = new LampThatFollows();
        due.is("keep of nothing", x.keep(), 1);
        due.is("no lamps", x.again(), 0);
        x.lamp(1, 1, 1, 1);
        x.dance(3);
        x.report(1, 1, 1, 1);
        Due.rules(x, "old wait;");
        x.seed(4);
        x.beat();
        due.is("no lamps", x.again(), 0);
        for (int what = 0; what < 4; what++) due.is("none", x.many(what), 0);
        due.is("beat", x.state(0), 0);
        due.is("score", x.state(2), 0);
        due.is("over", x.state(3), 1);
        due.is("z", x.seed(1), 1);
        due.is("the first lamp", x.lamp(1, 1, 1, 1), 0);
        due.is("the first beat", x.dance(7), 0);
        due.is("the first report", x.report(1, 1, 1, 1), 0);
    }

    private static void promise49AllBut() {
        LampThatFollows x = Due.dancing(20, 20, 20);
        x.lamp(1, 20, 5, 1);
        x.keep();
        Due.feed(x, "old wait;");
        x.prove(3);
        x.alterRow(2, 2, 5);
        x.sheet(3, 1, 4);
        x.write(3, 3, -7);
        x.shelf(0, 1, 3);
        x.shelf(3, 0, 0);
        x.act(3, 0, 1);
        due.is("again", x.again(), 1);
        due.is("the tape", x.many(5), 9);
        due.is("rows", x.many(4), 3);
        due.is("a row", x.row(2, 2), 5);
        due.is("a sheet", x.item(3, 1, 3), -7);
        due.is("a shelf", x.taken(0, 11), 4);
        due.is("a shelf", x.taken(3, 1), 0);
        due.is("the trace", x.many(6), 2);
        due.is("the trace", x.trace(0), 20);
        due.is("the rules on the tape", x.rules(), 1);
        x.again();
        due.is("are no longer", x.many(1), 0);
        due.is("and the tape stays used up", x.many(5), 0);
    }

    private static void promise49RulesAndReportsOfTheTime() {
        LampThatFollows x = Due.dancing(20, 30, 40);
        x.lamp(1, 20, 0, 1);
        Due.rules(x, "hand if 1=2 or 2=2 and not 3=3 or beat=0 lead 1;hand if aim=20 lead 2;");
        x.report(0, 3, 0, 2);
        x.keep();
        Due.rules(x, "hand lead 2;");
        x.forget();
        x.report(0, 4, 0, 2);
        due.is("other rules", x.lampOf(0, 4), 40);
        x.again();
        due.is("the first rule that was kept", x.lampOf(0, 4), 30);
        due.is("the report that was kept", x.span(1), 3);
        x.beat();
        x.change(0, 1, 20);
        due.is("the second rule that was kept", x.lampOf(0, 4), 40);
        x.change(0, 1, 21);
        due.is("neither holds", x.lampOf(0, 4), 20);
    }

    private static void promise50NothingIsKept() {
        LampThatFollows x = full();
        for (int b = 0; b < 3; b++) x.beat();
        due.is("nothing is kept", x.again(), -3);
        isFull(x);
    }

    private static void promise50TheLatest() {
        LampThatFollows x = new LampThatFollows();
        for (int l = 0; l < 6; l++) {
            x.keep();
            x.lamp(1, l, 1, 1);
            due.is("the latest", x.again(), l);
            x.lamp(1, 10 + l, 1, 1);
        }
        x.keep();
        due.is("the latest", x.again(), 6);
        for (int l = 0; l < 6; l++) due.is("its lamps", x.lampOf(l, 1), 10 + l);
    }

    private static void promise50WhichStays() {
        LampThatFollows x = Due.dancing(20, 30);
        x.lamp(1, 10, 0, 1);
        x.keep();
        for (int round = 0; round < 5; round++) {
            due.is("again", x.again(), 1);
            due.is("its aim", x.lampOf(0, 1), 10);
            due.is("beat", x.state(0), 0);
            due.is("z", x.seed(1), 1);
            due.is("beats", x.state(1), 2);
            x.lot();
            x.lot();
            x.dance(1);
            x.lamp(2, 2, 2, 2);
            x.change(0, 1, 33);
        }
    }

    private static void promise50FromThereOn() {
        LampThatFollows x = Due.dancing(20, 20);
        x.lamp(1, 20, 0, 1);
        x.beat();
        x.keep();
        x.beat();
        due.is("over", x.state(3), 1);
        x.again();
        due.is("one yet", x.state(3), 0);
        due.is("went by", x.steps(0, 5), -4);
        due.is("comes", x.steps(1, 20), 20);
        due.is("it goes by", x.beat(), 10);
        due.is("score", x.state(2), 20);
        due.is("over", x.beat(), -4);
        due.is("the second lamp", x.lamp(1, 0, 0, 1), 1);
        due.is("the third beat", x.dance(0), 2);
    }
}
