/** The boundary cases that promises 1 to 10 name: a new object, lamps, the dance. */
public final class LampsBoundaryTest {
    private static final Due due = new Due("LampsBoundaryTest");
    private static final int MIN = Integer.MIN_VALUE, MAX = Integer.MAX_VALUE;

    public static void main(String[] args) {
        promise1NothingThereAndNothingKept();
        promise1AskedOfANewObject();
        promise2KindsAre1To5();
        promise2NumbersFarOutside();
        promise2BadAndFull();
        promise3WhatIs0To5();
        promise3NoSuchLamp();
        promise3GoalThatStays();
        promise3BehindTheBeatThatComes();
        promise4WhatIs1To3();
        promise4NoSuchLamp();
        promise4RefusedLeavesAsItWas();
        promise5AnotherKind();
        promise5NoSuchLampOrKind();
        promise6BehindAllOthers();
        promise6BadAndFull();
        promise7NoSuchBeat();
        promise8NoSuchBeatOrPlace();
        promise8WentBy();
        promise8TheSamePlace();
        promise9AtOnceAndWhenOver();
        promise10WhatIs0To3();
        due.end();
    }

    private static LampThatFollows withLamp() {
        LampThatFollows x = Due.dancing(10, 20, 30);
        x.lamp(1, 15, 4, 6);
        return x;
    }

    private static void promise1NothingThereAndNothingKept() {
        LampThatFollows x = new LampThatFollows();
        due.is("lamps", x.many(0), 0);
        due.is("rules", x.many(1), 0);
        due.is("beats", x.many(2), 0);
        due.is("reports", x.many(3), 0);
        due.is("nothing is kept", x.again(), -3);
    }

    private static void promise1AskedOfANewObject() {
        LampThatFollows x = new LampThatFollows();
        for (int l = -1; l <= 6; l++) {
            due.is("shows", x.shows(l), -1);
            due.is("lost", x.lost(l), -1);
            due.is("crosses", x.crosses(l, l + 1), -1);
            due.is("sized", x.sized(l), -1);
            due.is("aimed", x.aimed(l), -1);
            due.is("stepFor", x.stepFor(l), -1);
            due.is("lampOf", x.lampOf(l, 0), -1);
            due.is("change", x.change(l, 1, 1), -1);
            due.is("remake", x.remake(l, 1), -1);
        }
        for (int n = 0; n <= 16; n++) due.is("on", x.on(n), 0);
        for (int n = 0; n <= 4; n++) {
            due.is("best", x.best(n), 0);
            due.is("ways", x.ways(n), 1);
            due.is("prove", x.prove(n), 0);
            due.is("ith", x.ith(n, 0), -3);
            due.is("game", x.game(n), n == 0 ? -1 : 0);
            due.is("play", x.play(n), n == 0 ? -1 : -3);
        }
        due.is("span", x.span(0), 205);
        due.is("liar", x.liar(), -3);
        due.is("judge", x.judge(), 0);
        due.is("rules of an empty tape", x.rules(), 0);
    }

    private static void promise2KindsAre1To5() {
        LampThatFollows x = new LampThatFollows();
        due.is("kind 0", x.lamp(0, 1, 1, 1), -1);
        due.is("kind 6", x.lamp(6, 1, 1, 1), -1);
        for (int kind = 1; kind <= 5; kind++) due.is("kind " + kind, x.lamp(kind, 1, 1, 1), kind - 1);
        for (int l = 0; l < 5; l++) due.is("its kind", x.lampOf(l, 0), l + 1);
    }

    private static void promise2NumbersFarOutside() {
        LampThatFollows x = new LampThatFollows();
        for (int far : new int[] {MIN, MIN + 1, -100, 100, MAX - 1, MAX}) {
            due.is("kind " + far, x.lamp(far, 1, 1, 1), -1);
            due.is("aim " + far, x.lamp(1, far, 1, 1), -1);
            due.is("size " + far, x.lamp(1, 1, far, 1), -1);
            due.is("step " + far, x.lamp(1, 1, 1, far), -1);
        }
        due.is("none came", x.many(0), 0);
        due.is("the first one that is", x.lamp(1, 1, 1, 1), 0);
    }

    private static void promise2BadAndFull() {
        LampThatFollows x = new LampThatFollows();
        for (int l = 0; l < 6; l++) x.lamp(1, l, 1, 1);
        due.is("full", x.lamp(1, 40, 9, 9), -2);
        due.is("bad kind, and full", x.lamp(0, 1, 1, 1), -1);
        due.is("bad aim, and full", x.lamp(1, 41, 1, 1), -1);
        due.is("bad size, and full", x.lamp(1, 1, 10, 1), -1);
        due.is("bad step, and full", x.lamp(1, 1, 1, 10), -1);
        for (int l = 0; l < 6; l++) due.is("the others stay", x.lampOf(l, 1), l);
    }

    private static void promise3WhatIs0To5() {
        LampThatFollows x = withLamp();
        int[] want = {1, 15, 4, 6, 10, 10};
        for (int what = 0; what <= 5; what++) due.is("what " + what, x.lampOf(0, what), want[what]);
        for (int what : new int[] {MIN, -1, 6, 7, MAX}) due.is("what " + what, x.lampOf(0, what), -1);
    }

    private static void promise3NoSuchLamp() {
        LampThatFollows x = withLamp();
        for (int l : new int[] {MIN, -1, 1, 2, 5, 6, MAX}) {
            for (int what = 0; what <= 5; what++) due.is("lamp " + l, x.lampOf(l, what), -1);
        }
    }

    private static void promise3GoalThatStays() {
        LampThatFollows x = withLamp();
        x.change(0, 1, 40);
        due.is("a goal at 40 less 1", x.steps(0, 39), 10);
        due.is("goal", x.lampOf(0, 4), 39);
        x.steps(0, 40);
        due.is("a goal at 40 is none that stays", x.lampOf(0, 4), 40);
        Due.rules(x, "hand wait;");
        due.is("it stays", x.lampOf(0, 4), 41);
        due.is("behind the beat", x.lampOf(0, 5), 40);
        x.change(0, 1, 0);
        due.is("it stays at 0", x.lampOf(0, 5), 0);
        x.beat();
        due.is("it stayed at 0", x.lampOf(0, 1), 0);
    }

    private static void promise3BehindTheBeatThatComes() {
        LampThatFollows x = withLamp();
        due.is("ahead of the first", x.lampOf(0, 5), 10);
        x.beat();
        x.beat();
        due.is("ahead of the last", x.lampOf(0, 5), 16);
        x.beat();
        due.is("over", x.lampOf(0, 5), 41);
        due.is("over, its goal", x.lampOf(0, 4), 30);
        due.is("over, its aim", x.lampOf(0, 1), 16);
        Due.rules(x, "hand wait;");
        due.is("over, and it stays", x.lampOf(0, 4), 41);
        x.dance(0);
        due.is("one more to come", x.lampOf(0, 5), 16);
    }

    private static void promise4WhatIs1To3() {
        LampThatFollows x = withLamp();
        for (int what : new int[] {MIN, -1, 0, 4, 5, MAX}) due.is("what " + what, x.change(0, what, 1), -1);
        due.is("aim", x.change(0, 1, 16), 15);
        due.is("size", x.change(0, 2, 5), 4);
        due.is("step", x.change(0, 3, 7), 6);
        due.is("the kind stays", x.lampOf(0, 0), 1);
        due.is("what aim may be size may not", x.change(0, 2, 40), -1);
        due.is("what size may be step may not", x.change(0, 3, 0), -1);
        due.is("to what it is", x.change(0, 1, 16), 16);
    }

    private static void promise4NoSuchLamp() {
        LampThatFollows x = withLamp();
        for (int l : new int[] {MIN, -1, 1, 6, MAX}) {
            for (int what = 1; what <= 3; what++) due.is("lamp " + l, x.change(l, what, 1), -1);
        }
    }

    private static void promise4RefusedLeavesAsItWas() {
        LampThatFollows x = withLamp();
        for (int v : new int[] {MIN, -1, 41, MAX}) {
            for (int what = 1; what <= 3; what++) due.is("to " + v, x.change(0, what, v), -1);
        }
        due.is("aim", x.lampOf(0, 1), 15);
        due.is("size", x.lampOf(0, 2), 4);
        due.is("step", x.lampOf(0, 3), 6);
    }

    private static void promise5AnotherKind() {
        LampThatFollows x = withLamp();
        int was = 1;
        for (int kind : new int[] {5, 4, 3, 2, 1, 1}) {
            due.is("to " + kind, x.remake(0, kind), was);
            due.is("its kind", x.lampOf(0, 0), kind);
            due.is("its aim stays", x.lampOf(0, 1), 15);
            due.is("its size stays", x.lampOf(0, 2), 4);
            due.is("its step stays", x.lampOf(0, 3), 6);
            was = kind;
        }
    }

    private static void promise5NoSuchLampOrKind() {
        LampThatFollows x = withLamp();
        for (int l : new int[] {MIN, -1, 1, 6, MAX}) due.is("lamp " + l, x.remake(l, 2), -1);
        for (int kind : new int[] {MIN, -1, 0, 6, MAX}) due.is("kind " + kind, x.remake(0, kind), -1);
        due.is("its kind stays", x.lampOf(0, 0), 1);
    }

    private static void promise6BehindAllOthers() {
        LampThatFollows x = Due.dancing(4, 5);
        x.beat();
        due.is("behind all others, also when one went by", x.dance(6), 2);
        x.beat();
        x.beat();
        due.is("behind all others, also when all went by", x.dance(7), 3);
        for (int b = 0; b < 4; b++) due.is("beat " + b, x.danceOf(b), 4 + b);
        x.anew();
        due.is("behind all others, also anew", x.dance(8), 4);
    }

    private static void promise6BadAndFull() {
        LampThatFollows x = new LampThatFollows();
        for (int place : new int[] {MIN, -1, 41, MAX}) due.is("at " + place, x.dance(place), -1);
        due.is("none came", x.state(1), 0);
        for (int b = 0; b < 16; b++) x.dance(40 - b);
        due.is("full", x.dance(0), -2);
        for (int place : new int[] {MIN, -1, 41, MAX}) due.is("at " + place + ", and full", x.dance(place), -1);
        due.is("the last one stays", x.danceOf(15), 25);
    }

    private static void promise7NoSuchBeat() {
        LampThatFollows x = new LampThatFollows();
        due.is("of no dance", x.danceOf(0), -1);
        x.dance(40);
        x.dance(0);
        due.is("the first", x.danceOf(0), 40);
        due.is("the last", x.danceOf(1), 0);
        for (int b : new int[] {MIN, -1, 2, 15, 16, MAX}) due.is("beat " + b, x.danceOf(b), -1);
        x.beat();
        due.is("one that went by", x.danceOf(0), 40);
    }

    private static void promise8NoSuchBeatOrPlace() {
        LampThatFollows x = Due.dancing(10, 20, 30);
        for (int b : new int[] {MIN, -1, 3, 15, 16, MAX}) due.is("beat " + b, x.steps(b, 1), -1);
        for (int place : new int[] {MIN, -1, 41, MAX}) due.is("to " + place, x.steps(1, place), -1);
        due.is("it stays", x.danceOf(1), 20);
        due.is("of no dance", new LampThatFollows().steps(0, 1), -1);
    }

    private static void promise8WentBy() {
        LampThatFollows x = Due.dancing(10, 20, 30);
        x.beat();
        x.beat();
        due.is("went by first", x.steps(0, 1), -4);
        due.is("went by latest", x.steps(1, 1), -4);
        due.is("comes", x.steps(2, 1), 30);
        due.is("went by, and to no place", x.steps(0, 41), -1);
        x.beat();
        due.is("went by, when it is over", x.steps(2, 2), -4);
        due.is("no such one, when it is over", x.steps(3, 2), -1);
        int[] places = {10, 20, 1};
        for (int b = 0; b < 3; b++) due.is("she was at", x.danceOf(b), places[b]);
        x.anew();
        due.is("anew it comes again", x.steps(0, 1), 10);
    }

    private static void promise8TheSamePlace() {
        LampThatFollows x = Due.dancing(10);
        due.is("the same place", x.steps(0, 10), 10);
        due.is("it is", x.danceOf(0), 10);
    }

    private static void promise9AtOnceAndWhenOver() {
        LampThatFollows x = new LampThatFollows();
        due.is("of no dance", x.anew(), 0);
        for (int b = 0; b < 16; b++) x.dance(20);
        x.lamp(1, 10, 9, 9);
        due.is("at once", x.anew(), 0);
        for (int b = 0; b < 16; b++) due.is("a beat", x.beat(), 1);
        due.is("score", x.state(2), 16);
        due.is("over, behind 16", x.anew(), 16);
        due.is("beat", x.state(0), 0);
        due.is("score", x.state(2), 0);
        due.is("not over", x.state(3), 0);
        due.is("aims stay", x.lampOf(0, 1), 20);
        due.is("beats stay", x.state(1), 16);
        due.is("again at once", x.anew(), 0);
    }

    private static void promise10WhatIs0To3() {
        LampThatFollows x = withLamp();
        x.beat();
        int[] want = {1, 3, 6, 0};
        for (int what = 0; what <= 3; what++) due.is("what " + what, x.state(what), want[what]);
        for (int what : new int[] {MIN, -1, 4, MAX}) due.is("what " + what, x.state(what), -1);
    }
}
