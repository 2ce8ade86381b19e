/** The boundary cases that promises 23 to 27 and 35 to 38 name: plans, the game, rows and their reader. */
public final class PlansBoundaryTest {
    private static final Due due = new Due("PlansBoundaryTest");
    private static final int MIN = Integer.MIN_VALUE, MAX = Integer.MAX_VALUE;
    private static final int[] NO_PLANS = {MIN, -1, 5, 16, MAX};

    public static void main(String[] args) {
        promise23NIs0To4();
        promise23FewerIfOver();
        promise24TheFirstIsThatWithTheLesserAct();
        promise24NIs0To4AndIIs0To3();
        promise24HasNotSoMany();
        promise25NoneAndAll();
        promise26NIs1To4();
        promise26TillItIsOver();
        promise26TheyPlayInTurn();
        promise27TheLeastAct();
        promise27TheGreatestAct();
        promise27BadAndNone();
        promise35NIs0To4();
        promise35FewerIfOver();
        promise35InPlaceOfAll();
        promise36NoSuchRow();
        promise37NoSuchRow();
        promise37ToAnyNumber();
        promise38AllIsRight();
        promise38NoActs();
        promise38Over();
        promise38TheFirstThatIsNot();
        promise38AsTheyAreThen();
        due.end();
    }

    /** It goes 1 by each beat at which it is not held, and she is to be had at 22 at beat 2 alone. */
    private static LampThatFollows climbing(int aim) {
        LampThatFollows x = Due.dancing(5, 35, 22, 30);
        Due.rules(x, "hand lead 3;");
        x.lamp(1, aim, 0, 1);
        return x;
    }

    private static LampThatFollows six() {
        LampThatFollows x = Due.dancing(20, 20, 20, 20, 20);
        for (int l = 0; l < 6; l++) x.lamp(1, 20, l, 1);
        return x;
    }

    private static void goes(LampThatFollows x, int beats) {
        for (int b = 0; b < beats; b++) x.beat();
    }

    private static void promise23NIs0To4() {
        LampThatFollows x = six();
        int all = 10 + 9 + 8 + 7 + 6 + 5;
        for (int n = 0; n <= 4; n++) due.is("best " + n, x.best(n), n * all);
        for (int n : NO_PLANS) due.is("best " + n, x.best(n), -1);
        LampThatFollows y = climbing(20);
        int[] want = {0, 0, 0, 10, 10};
        for (int n = 0; n <= 4; n++) due.is("best " + n, y.best(n), want[n]);
    }

    private static void promise23FewerIfOver() {
        LampThatFollows x = climbing(20);
        goes(x, 1);
        due.is("three beats yet", x.best(4), 10);
        goes(x, 1);
        due.is("two beats yet", x.best(4), 10);
        goes(x, 1);
        due.is("one beat yet", x.best(4), 0);
        goes(x, 1);
        due.is("over", x.best(4), 0);
        due.is("over, of 0", x.best(0), 0);
        due.is("over, of 5", x.best(5), -1);
    }

    private static void acts(LampThatFollows x, int n, int... want) {
        for (int i = 0; i < 4; i++) {
            due.is("act " + i + " of " + n, x.ith(n, i), i < want.length ? want[i] : -3);
        }
    }

    private static void promise24TheFirstIsThatWithTheLesserAct() {
        // held once in three beats, or what is left of these
        acts(climbing(20), 3, 0, 0, 1);
        acts(climbing(20), 4, 0, 0, 1, 0);
        acts(climbing(21), 3, 0, 1, 1);
        acts(climbing(22), 3, 1, 1, 1);
        acts(climbing(19), 3, 0, 0, 0);
        LampThatFollows y = Due.dancing(5, 35, 5, 22, 30);
        Due.rules(y, "hand lead 4;");
        y.lamp(1, 19, 0, 1);
        acts(y, 4, 0, 0, 0, 1);
        due.is("rows of these", y.prove(4), 4);
        for (int k = 0; k < 4; k++) due.is("its act", y.row(k, 0), k < 3 ? 0 : 1);
        LampThatFollows x = climbing(22);
        x.lamp(1, 22, 0, 1);
        due.is("either lamp is held", x.best(3), 10);
        acts(x, 3, 1, 1, 1);
        x.change(0, 1, 0);
        acts(x, 3, 2, 2, 2);
    }

    private static void promise24NIs0To4AndIIs0To3() {
        LampThatFollows x = six();
        for (int i = 0; i <= 3; i++) due.is("act " + i, x.ith(4, i), 0);
        for (int i : new int[] {MIN, -1, 4, 5, MAX}) {
            for (int n = 0; n <= 4; n++) due.is("act " + i + " of " + n, x.ith(n, i), -1);
        }
        for (int n : NO_PLANS) {
            for (int i = -1; i <= 4; i++) due.is("act " + i + " of " + n, x.ith(n, i), -1);
        }
    }

    private static void promise24HasNotSoMany() {
        LampThatFollows x = six();
        for (int n = 0; n <= 4; n++) {
            for (int i = 0; i <= 3; i++) due.is("act " + i + " of " + n, x.ith(n, i), i < n ? 0 : -3);
        }
        goes(x, 3);
        for (int i = 0; i <= 3; i++) due.is("two beats yet, act " + i, x.ith(4, i), i < 2 ? 0 : -3);
        goes(x, 2);
        for (int i = 0; i <= 3; i++) due.is("over, act " + i, x.ith(4, i), -3);
        due.is("over, act 4", x.ith(4, 4), -1);
    }

    private static void promise25NoneAndAll() {
        LampThatFollows x = six();
        int ways = 1;
        for (int n = 0; n <= 4; n++, ways *= 7) due.is("ways " + n, x.ways(n), ways);
        for (int n : NO_PLANS) due.is("ways " + n, x.ways(n), -1);
        goes(x, 4);
        due.is("one beat yet", x.ways(4), 7);
        goes(x, 1);
        due.is("over, the plan of no beats", x.ways(4), 1);
        due.is("no lamps, the plan of none", Due.dancing(1, 2, 3, 4).ways(4), 1);
        int[] want = {1, 2, 4, 3, 6};
        for (int n = 0; n <= 4; n++) due.is("ways " + n, climbing(20).ways(n), want[n]);
        due.is("one way", climbing(22).ways(3), 1);
    }

    private static void promise26NIs1To4() {
        LampThatFollows x = six();
        for (int n = 1; n <= 4; n++) due.is("game " + n, x.game(n), 45 * n);
        for (int n : new int[] {MIN, -1, 0, 5, MAX}) due.is("game " + n, x.game(n), -1);
    }

    private static void promise26TillItIsOver() {
        LampThatFollows x = six();
        goes(x, 3);
        for (int n = 1; n <= 4; n++) due.is("two beats yet, game " + n, x.game(n), n == 1 ? 45 : 90);
        goes(x, 2);
        for (int n = 1; n <= 4; n++) due.is("over, game " + n, x.game(n), 0);
        due.is("over, game 0", x.game(0), -1);
        due.is("no dance", new LampThatFollows().game(4), 0);
    }

    private static void promise26TheyPlayInTurn() {
        // behind three beats it must have gone twice from 20, once from 21, and the other one is second
        due.is("from 20 the first one goes", climbing(20).game(3), 10);
        due.is("from 20", climbing(20).play(3), 0);
        due.is("from 21 the first one holds", climbing(21).game(3), 10);
        due.is("from 21", climbing(21).play(3), 1);
        due.is("from 19 the other one holds", climbing(19).game(3), 1);
        due.is("from 22 the other one goes", climbing(22).game(3), 1);
        due.is("from 22 the first one holds", climbing(22).play(3), 1);
        due.is("from 24 it is lost", climbing(24).game(4), 0);
    }

    private static void promise27TheLeastAct() {
        due.is("all acts are worth the same", climbing(20).play(2), 0);
        due.is("no lamps", Due.dancing(1, 2).play(4), 0);
        LampThatFollows x = Due.dancing(20, 30);
        for (int l = 0; l < 4; l++) x.lamp(1, l < 2 ? 10 : 22, 0, 1);
        due.is("lamps 2 and 3 go to 21", x.play(1), 0);
        Due.rules(x, "hand lead 1;");
        for (int l = 0; l < 4; l++) x.change(l, 1, l < 2 ? 10 : 20);
        // now these are to be held, either is as good
        due.is("the least that holds one", x.play(1), 3);
        x.change(2, 1, 10);
        due.is("the only one", x.play(1), 4);
    }

    private static void promise27TheGreatestAct() {
        LampThatFollows x = Due.dancing(20, 40);
        Due.rules(x, "hand lead 1;");
        for (int l = 0; l < 6; l++) x.lamp(1, l == 5 ? 20 : 0, 0, 9);
        due.is("lamp 5 is held", x.play(1), 6);
        due.is("lamp 5 is held", x.ith(1, 0), 6);
        due.is("worth", x.game(1), 10);
    }

    private static void promise27BadAndNone() {
        LampThatFollows x = six();
        for (int n : new int[] {MIN, -1, 0, 5, MAX}) due.is("play " + n, x.play(n), -1);
        goes(x, 5);
        for (int n = 1; n <= 4; n++) due.is("over, play " + n, x.play(n), -3);
        due.is("over, play 0", x.play(0), -1);
        due.is("over, play 5", x.play(5), -1);
    }

    private static void promise35NIs0To4() {
        LampThatFollows x = six();
        for (int n = 0; n <= 4; n++) {
            due.is("prove " + n, x.prove(n), n);
            due.is("rows", x.many(4), n);
        }
        for (int n : NO_PLANS) {
            due.is("prove " + n, x.prove(n), -1);
            due.is("rows stay", x.many(4), 4);
        }
        for (int k = 0; k < 4; k++) {
            due.is("its act", x.row(k, 0), 0);
            due.is("its worth", x.row(k, 1), 45);
            due.is("all six are in", x.row(k, 2), 63);
        }
    }

    private static void promise35FewerIfOver() {
        LampThatFollows x = climbing(20);
        goes(x, 2);
        due.is("two beats yet", x.prove(4), 2);
        goes(x, 2);
        due.is("rows stay", x.many(4), 2);
        due.is("over", x.prove(4), 0);
        due.is("no rows", x.many(4), 0);
        due.is("no dance", new LampThatFollows().prove(4), 0);
    }

    private static void promise35InPlaceOfAll() {
        LampThatFollows x = climbing(22);
        x.prove(4);
        due.is("a row", x.row(2, 1), 10);
        x.alterRow(0, 0, 77);
        due.is("fewer", x.prove(2), 2);
        due.is("the first one anew", x.row(0, 0), 0);
        due.is("no third one", x.row(2, 1), -9);
        due.is("more again", x.prove(3), 3);
        due.is("a row", x.row(2, 0), 1);
    }

    private static void promise36NoSuchRow() {
        LampThatFollows x = climbing(22);
        due.is("no rows", x.row(0, 0), -9);
        x.prove(3);
        int[][] want = {{1, 0, 0}, {1, 0, 0}, {1, 10, 1}};
        for (int k = 0; k < 3; k++) {
            for (int what = 0; what < 3; what++) due.is("row " + k + ", " + what, x.row(k, what), want[k][what]);
            for (int what : new int[] {MIN, -1, 3, MAX}) due.is("row " + k + ", " + what, x.row(k, what), -9);
        }
        for (int k : new int[] {MIN, -1, 3, 4, MAX}) {
            for (int what = -1; what <= 3; what++) due.is("row " + k + ", " + what, x.row(k, what), -9);
        }
    }

    private static void promise37NoSuchRow() {
        LampThatFollows x = climbing(22);
        due.is("no rows", x.alterRow(0, 0, 1), -9);
        x.prove(3);
        for (int k : new int[] {MIN, -1, 3, 4, MAX}) due.is("row " + k, x.alterRow(k, 0, 5), -9);
        for (int what : new int[] {MIN, -1, 3, MAX}) due.is("what " + what, x.alterRow(0, what, 5), -9);
        int[][] want = {{1, 0, 0}, {1, 0, 0}, {1, 10, 1}};
        for (int k = 0; k < 3; k++) {
            for (int what = 0; what < 3; what++) due.is("it stays", x.row(k, what), want[k][what]);
        }
        due.is("no fourth one", x.many(4), 3);
    }

    private static void promise37ToAnyNumber() {
        LampThatFollows x = climbing(22);
        x.prove(1);
        for (int what = 0; what < 3; what++) {
            int was = x.row(0, what);
            for (int v : new int[] {MIN, -9, -1, 0, 41, MAX}) {
                due.is("what it was", x.alterRow(0, what, v), was);
                due.is("what it became", x.row(0, what), v);
                was = v;
            }
        }
    }

    private static void promise38AllIsRight() {
        LampThatFollows x = climbing(20);
        due.is("no rows", x.judge(), 0);
        for (int n = 0; n <= 4; n++) {
            x.prove(n);
            due.is("as proved", x.judge(), 0);
        }
        x.alterRow(0, 0, 1);
        x.alterRow(2, 0, 0);
        due.is("another plan that is worth as much", x.judge(), 0);
        goes(x, 4);
        due.is("over, and rows", x.judge(), 1);
        x.prove(4);
        due.is("over, and no rows", x.judge(), 0);
    }

    private static void promise38NoActs() {
        LampThatFollows x = six();
        x.prove(4);
        for (int act = 0; act <= 6; act++) {
            x.alterRow(1, 0, act);
            due.is("an act: " + act, x.judge(), 0);
        }
        for (int act : new int[] {MIN, MIN + 1, -1, 7, 8, 127, MAX}) {
            x.alterRow(1, 0, act);
            due.is("no act: " + act, x.judge(), 2);
        }
        LampThatFollows y = climbing(20);
        y.prove(2);
        y.alterRow(0, 0, 2);
        due.is("no lamp of that number", y.judge(), 1);
        y.lamp(1, 40, 0, 1);
        due.is("a lamp of that number", y.judge(), 0);
        LampThatFollows z = Due.dancing(1);
        z.prove(1);
        due.is("without lamps 0 is an act", z.judge(), 0);
        z.alterRow(0, 0, 1);
        due.is("without lamps 1 is none", z.judge(), 1);
    }

    private static void promise38Over() {
        LampThatFollows x = six();
        x.prove(4);
        for (int b = 0; b <= 5; b++) {
            due.is("at beat " + b, x.judge(), b < 2 ? 0 : 6 - b);
            x.beat();
        }
        x.dance(20);
        due.is("one more to come", x.judge(), 2);
    }

    private static void promise38TheFirstThatIsNot() {
        LampThatFollows x = six();
        x.prove(4);
        for (int k = 3; k >= 0; k--) {
            x.alterRow(k, 1, 44);
            due.is("the worth of row " + k, x.judge(), k + 1);
        }
        for (int k = 0; k < 4; k++) {
            x.alterRow(k, 1, 45);
            due.is("right up to row " + k, x.judge(), k < 3 ? k + 2 : 0);
        }
        for (int k = 3; k >= 0; k--) {
            x.alterRow(k, 2, 31);
            due.is("the set of row " + k, x.judge(), k + 1);
        }
        x.alterRow(0, 2, 63);
        due.is("the second one is the first", x.judge(), 2);
        x.alterRow(0, 2, 127);
        due.is("a set of lamps that are not", x.judge(), 1);
    }

    private static void promise38AsTheyAreThen() {
        LampThatFollows x = climbing(20);
        x.prove(3);
        x.alterRow(2, 1, 1);
        due.is("a worth that is not", x.judge(), 3);
        x.alterRow(2, 0, 0);
        due.is("not held it is worth 1, but she is not in", x.judge(), 3);
        x.alterRow(2, 2, 0);
        due.is("rows of another plan, though not the best one", x.judge(), 0);
        x.steps(2, 0);
        due.is("she comes elsewhere", x.judge(), 3);
        x.steps(2, 22);
        due.is("and back", x.judge(), 0);
        x.change(0, 2, 1);
        due.is("a greater size has her in", x.judge(), 3);
    }
}
