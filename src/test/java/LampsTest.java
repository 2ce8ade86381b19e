/** Promises 1 to 10: a new object, lamps, the dance. */
public final class LampsTest {
    private static final Due due = new Due("LampsTest");

    public static void main(String[] args) {
        newObject();
        lamps();
        kindsGo();
        theDocumentsEdgesOfGoing();
        changes();
        remakes();
        dances();
        stepsAnew();
        due.end();
    }

    private static void newObject() {
        LampThatFollows x = new LampThatFollows();
        for (int what = 0; what <= 6; what++) due.is("new many(" + what + ")", x.many(what), 0);
        for (int what = 0; what <= 2; what++) due.is("new state(" + what + ")", x.state(what), 0);
        due.is("new state(3)", x.state(3), 1);
        due.is("new again()", x.again(), -3);
        due.is("new seed(5)", x.seed(5), 1);
        due.is("new trace(0)", x.trace(0), -3);
        due.is("new row(0, 0)", x.row(0, 0), -9);
        for (int k = 0; k < 4; k++) {
            due.is("new item", x.item(k, 0, 0), -11);
            due.is("new taken", x.taken(k, 0), -11);
        }
        LampThatFollows y = new LampThatFollows();
        y.lamp(1, 1, 1, 1);
        due.is("objects share nothing", x.many(0), 0);
    }

    private static void lamps() {
        LampThatFollows x = new LampThatFollows();
        int[][] wrong = {{0, 1, 1, 1}, {6, 1, 1, 1}, {-1, 1, 1, 1}, {1, -1, 1, 1}, {1, 41, 1, 1},
            {1, 1, -1, 1}, {1, 1, 10, 1}, {1, 1, 1, 0}, {1, 1, 1, 10}, {1, Integer.MIN_VALUE, 1, 1}};
        for (int[] w : wrong) due.is("lamp as none is", x.lamp(w[0], w[1], w[2], w[3]), -1);
        for (int k = 1; k <= 5; k++) due.is("lamp", x.lamp(k, 8 * k, k + 4, k), k - 1);
        due.is("lamp at the edges", x.lamp(1, 0, 0, 9), 5);
        due.is("lamp, full", x.lamp(1, 0, 0, 9), -2);
        due.is("lamp, bad and full", x.lamp(1, 41, 0, 9), -1);
        due.is("many lamps", x.many(0), 6);
        for (int l = 0; l < 5; l++) {
            due.is("its kind", x.lampOf(l, 0), l + 1);
            due.is("its aim", x.lampOf(l, 1), 8 * (l + 1));
            due.is("its size", x.lampOf(l, 2), l + 5);
            due.is("its step", x.lampOf(l, 3), l + 1);
        }
        due.is("no such lamp", x.lampOf(6, 0), -1);
        due.is("no such lamp", x.lampOf(-1, 0), -1);
        due.is("nothing such", x.lampOf(0, 6), -1);
        due.is("nothing such", x.lampOf(0, -1), -1);
        due.is("it is over", x.lampOf(0, 5), 41);
    }

    private static int gone(int kind, int aim, int step, int seen) {
        LampThatFollows x = Due.dancing(seen);
        x.lamp(kind, aim, 0, step);
        due.is("goal is where she is seen", x.lampOf(0, 4), seen);
        int behind = x.lampOf(0, 5);
        x.beat();
        due.is("it goes as told ahead", x.lampOf(0, 1), behind);
        return behind;
    }

    private static void kindsGo() {
        int[] far = {13, 16, 17, 13, 13};
        int[] back = {7, 4, 3, 7, 7};
        int[] near = {12, 12, 13, 11, 11};
        int[] one = {9, 9, 8, 10, 10};
        int[] three = {7, 7, 6, 9, 9};
        for (int kind = 1; kind <= 5; kind++) {
            due.is("kind " + kind + " far on", gone(kind, 10, 3, 30), far[kind - 1]);
            due.is("kind " + kind + " far back", gone(kind, 10, 3, 0), back[kind - 1]);
            due.is("kind " + kind + " near", gone(kind, 10, 3, 12), near[kind - 1]);
            due.is("kind " + kind + " one back", gone(kind, 10, 3, 9), one[kind - 1]);
            due.is("kind " + kind + " three back", gone(kind, 10, 3, 7), three[kind - 1]);
            due.is("kind " + kind + " there", gone(kind, 10, 3, 10), 10);
        }
        due.is("quick between once and twice its step", gone(2, 10, 3, 15), 15);
        due.is("old, half of what is more than its step", gone(4, 10, 3, 15), 12);
    }

    private static void theDocumentsEdgesOfGoing() {
        due.is("nervous overshoots and is held", gone(3, 39, 1, 40), 40);
        due.is("nervous overshoots and is held", gone(3, 1, 1, 0), 0);
        LampThatFollows x = Due.dancing(40, 40, 40, 40, 40, 40, 40, 40, 40);
        x.lamp(5, 0, 0, 2);
        int[] aims = {2, 4, 6, 6, 8, 10, 12, 12, 14};
        for (int b = 0; b < 9; b++) {
            due.is("tired ahead of beat " + b, x.lampOf(0, 5), aims[b]);
            due.is("tired has its goal yet", x.lampOf(0, 4), 40);
            x.beat();
            due.is("tired behind beat " + b, x.lampOf(0, 1), aims[b]);
        }
        due.is("over, its goal", x.lampOf(0, 4), 40);
        due.is("over, its aim behind", x.lampOf(0, 5), 41);
        LampThatFollows y = Due.dancing(5, 30, 8);
        y.lamp(1, 20, 0, 9);
        due.is("seen at the first beat", y.lampOf(0, 4), 5);
        y.beat();
        due.is("seen at the beat that went by", y.lampOf(0, 4), 5);
        y.beat();
        due.is("seen at the beat that went by", y.lampOf(0, 4), 30);
        y.beat();
        due.is("seen at the last beat", y.lampOf(0, 4), 8);
    }

    private static void changes() {
        LampThatFollows x = Due.dancing(20, 20);
        x.lamp(1, 10, 2, 3);
        x.lamp(2, 11, 4, 5);
        int[][] wrong = {{2, 1, 1}, {-1, 1, 1}, {0, 0, 1}, {0, 4, 1}, {0, -1, 1}, {0, 1, 41}, {0, 1, -1},
            {0, 2, 10}, {0, 2, -1}, {0, 3, 0}, {0, 3, 10}};
        for (int[] w : wrong) due.is("change as none is", x.change(w[0], w[1], w[2]), -1);
        due.is("change aim", x.change(1, 1, 40), 11);
        due.is("change size", x.change(1, 2, 9), 4);
        due.is("change step", x.change(1, 3, 9), 5);
        due.is("change aim", x.change(1, 1, 0), 40);
        due.is("change size", x.change(1, 2, 0), 9);
        due.is("change step", x.change(1, 3, 1), 9);
        due.is("changed aim", x.lampOf(1, 1), 0);
        due.is("changed size", x.lampOf(1, 2), 0);
        due.is("changed step", x.lampOf(1, 3), 1);
        due.is("the other's aim", x.lampOf(0, 1), 10);
        due.is("the other's size", x.lampOf(0, 2), 2);
        due.is("the other's step", x.lampOf(0, 3), 3);
        due.is("quick with step 1", x.lampOf(1, 5), 2);
    }

    private static void remakes() {
        LampThatFollows x = Due.dancing(20, 20);
        x.lamp(1, 10, 2, 3);
        due.is("remake of none", x.remake(1, 1), -1);
        due.is("remake of none", x.remake(-1, 1), -1);
        due.is("remake to a mere hand", x.remake(0, 0), -1);
        due.is("remake to none", x.remake(0, 6), -1);
        due.is("remake", x.remake(0, 3), 1);
        due.is("remade kind", x.lampOf(0, 0), 3);
        due.is("remade goes", x.lampOf(0, 5), 17);
        due.is("remake", x.remake(0, 5), 3);
        due.is("remade goes", x.lampOf(0, 5), 13);
        due.is("its aim stays", x.lampOf(0, 1), 10);
    }

    private static void dances() {
        LampThatFollows x = new LampThatFollows();
        due.is("danceOf none", x.danceOf(0), -1);
        due.is("dance outside", x.dance(-1), -1);
        due.is("dance outside", x.dance(41), -1);
        for (int b = 0; b < 16; b++) due.is("dance", x.dance(b == 0 ? 0 : b == 15 ? 40 : 2 * b), b);
        due.is("dance, full", x.dance(1), -2);
        due.is("dance, bad and full", x.dance(41), -1);
        for (int b = 0; b < 16; b++) due.is("danceOf", x.danceOf(b), b == 0 ? 0 : b == 15 ? 40 : 2 * b);
        due.is("danceOf outside", x.danceOf(16), -1);
        due.is("danceOf outside", x.danceOf(-1), -1);
        due.is("state beats", x.state(1), 16);
        due.is("many beats", x.many(2), 16);
        due.is("state not over", x.state(3), 0);
        due.is("state of none such", x.state(4), -1);
        due.is("state of none such", x.state(-1), -1);
    }

    private static void stepsAnew() {
        LampThatFollows x = Due.dancing(10, 11, 12);
        x.lamp(1, 10, 2, 3);
        due.is("steps of none", x.steps(3, 1), -1);
        due.is("steps of none", x.steps(-1, 1), -1);
        due.is("steps outside", x.steps(0, 41), -1);
        due.is("steps outside", x.steps(0, -1), -1);
        due.is("steps", x.steps(0, 40), 10);
        due.is("stepped", x.danceOf(0), 40);
        due.is("its goal, too", x.lampOf(0, 4), 40);
        due.is("steps", x.steps(0, 10), 40);
        x.beat();
        due.is("steps of what went by", x.steps(0, 5), -4);
        due.is("steps outside of what went by", x.steps(0, 41), -1);
        due.is("nothing stepped", x.danceOf(0), 10);
        due.is("steps of what comes", x.steps(1, 0), 11);
        due.is("score", x.state(2), 8);
        due.is("beat", x.state(0), 1);
        x.beat();
        due.is("anew", x.anew(), 2);
        due.is("beat anew", x.state(0), 0);
        due.is("score anew", x.state(2), 0);
        due.is("aims stay", x.lampOf(0, 1), 10);
        due.is("steps stay", x.danceOf(1), 0);
        due.is("steps anew", x.steps(0, 40), 10);
        x.beat();
        due.is("it went to where she is seen", x.lampOf(0, 1), 13);
        due.is("anew again", x.anew(), 1);
        due.is("aims stay", x.lampOf(0, 1), 13);
        due.is("anew at once", x.anew(), 0);
    }
}
