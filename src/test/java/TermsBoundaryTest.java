/** The boundary cases that the document's terms name, part 1: places, beats, how lamps go, what is seen and worth. */
public final class TermsBoundaryTest {
    private static final Due due = new Due("TermsBoundaryTest");
    private static final int STEADY = 1, QUICK = 2, NERVOUS = 3, OLD = 4, TIRED = 5;

    public static void main(String[] args) {
        allOf512Calls();
        placesAre0To40();
        sixteenBeatsAtMost();
        overBehindTheLastBeat();
        overIfThereAreNone();
        sixLampsAtMost();
        sizesAre0To9();
        stepsAre1To9();
        seenAtTheFirstBeatIfThereIsNoneAhead();
        aheadOfTheFirstBeatAndBehindTheLastOne();
        steadyIsHeldToItsStep();
        quickIsHeldToTwiceItsStep();
        nervousGoes1FartherIfThatIsNot0();
        aimIsHeldTo0To40();
        oldGoesHalfCutTowards0();
        tiredStandsIfBeatBy4Leaves3();
        sightAtEachSize();
        sightAtBothEndsOfThePlaces();
        worthOfTheLeastAndTheGreatestSize();
        theFirstAndTheLastLampAreHeld();
        setsHaveABitForEachLamp();
        due.end();
    }

    private static void allOf512Calls() {
        LampThatFollows x = new LampThatFollows();
        for (int b = 0; b < 16; b++) x.dance(5);
        for (int l = 0; l < 6; l++) x.lamp(STEADY, 5, 9, 1);
        for (int call = 22; call < 511; call += 3) {
            due.is("call " + call, x.best(4), 24);
            due.is("call " + (call + 1), x.ways(4), 2401);
            due.is("call " + (call + 2), x.often(40, 96), 40);
        }
        // 22 and three times 163 are 511
        due.is("the 512th call", x.on(16), 96);
    }

    private static void placesAre0To40() {
        LampThatFollows x = new LampThatFollows();
        due.is("dance(-1)", x.dance(-1), -1);
        due.is("dance(41)", x.dance(41), -1);
        due.is("dance(0)", x.dance(0), 0);
        due.is("dance(40)", x.dance(40), 1);
        due.is("lamp at -1", x.lamp(STEADY, -1, 0, 1), -1);
        due.is("lamp at 41", x.lamp(STEADY, 41, 0, 1), -1);
        due.is("lamp at 0", x.lamp(STEADY, 0, 0, 1), 0);
        due.is("lamp at 40", x.lamp(STEADY, 40, 0, 1), 1);
        due.is("steps to -1", x.steps(0, -1), -1);
        due.is("steps to 41", x.steps(0, 41), -1);
        due.is("steps to 40", x.steps(0, 40), 0);
        due.is("steps to 0", x.steps(0, 0), 40);
    }

    private static void sixteenBeatsAtMost() {
        LampThatFollows x = new LampThatFollows();
        for (int b = 0; b < 16; b++) due.is("a beat within 16", x.dance(b), b);
        due.is("the 17th beat", x.dance(3), -2);
        due.is("how many", x.state(1), 16);
        for (int b = 0; b < 16; b++) due.is("beat " + b + " goes by", x.beat(), 0);
        due.is("beat 16", x.state(0), 16);
        due.is("the 17th beat, also when all went by", x.dance(3), -2);
        due.is("no 17th goes by", x.beat(), -4);
    }

    private static void overBehindTheLastBeat() {
        LampThatFollows x = Due.dancing(1, 2);
        due.is("ahead of the first", x.state(3), 0);
        x.beat();
        due.is("ahead of the last", x.state(3), 0);
        x.beat();
        due.is("behind the last", x.state(3), 1);
        x.dance(3);
        due.is("one more to come", x.state(3), 0);
    }

    private static void overIfThereAreNone() {
        LampThatFollows x = new LampThatFollows();
        due.is("over", x.state(3), 1);
        due.is("beat", x.beat(), -4);
        due.is("lot", x.lot(), -4);
        due.is("play", x.play(1), -3);
        x.lamp(STEADY, 1, 1, 1);
        due.is("aim behind the beat that comes", x.lampOf(0, 5), 41);
        due.is("aim behind it by no rule either", Due.rules(x, "hand wait;"), 1);
        due.is("aim behind the beat that comes", x.lampOf(0, 5), 41);
        due.is("shows", x.shows(0), 0);
        due.is("lost", x.lost(0), -3);
        due.is("sized", x.sized(0), 0);
        due.is("aimed", x.aimed(0), 0);
        due.is("stepFor", x.stepFor(0), 1);
        due.is("who", x.who(), 0);
    }

    private static void sixLampsAtMost() {
        LampThatFollows x = new LampThatFollows();
        for (int l = 0; l < 6; l++) due.is("a lamp within 6", x.lamp(1 + l % 5, l, l, 1 + l), l);
        due.is("the seventh", x.lamp(1, 1, 1, 1), -2);
        due.is("how many", x.many(0), 6);
        due.is("the last one is", x.lampOf(5, 3), 6);
        due.is("behind it is none", x.lampOf(6, 3), -1);
    }

    private static void sizesAre0To9() {
        LampThatFollows x = new LampThatFollows();
        due.is("size -1", x.lamp(STEADY, 5, -1, 1), -1);
        due.is("size 10", x.lamp(STEADY, 5, 10, 1), -1);
        due.is("size 0", x.lamp(STEADY, 5, 0, 1), 0);
        due.is("size 9", x.lamp(STEADY, 5, 9, 1), 1);
        due.is("to size -1", x.change(0, 2, -1), -1);
        due.is("to size 10", x.change(0, 2, 10), -1);
        due.is("to size 9", x.change(0, 2, 9), 0);
        due.is("to size 0", x.change(0, 2, 0), 9);
    }

    private static void stepsAre1To9() {
        LampThatFollows x = new LampThatFollows();
        due.is("step 0", x.lamp(STEADY, 5, 0, 0), -1);
        due.is("step 10", x.lamp(STEADY, 5, 0, 10), -1);
        due.is("step 1", x.lamp(STEADY, 5, 0, 1), 0);
        due.is("step 9", x.lamp(STEADY, 5, 0, 9), 1);
        due.is("to step 0", x.change(0, 3, 0), -1);
        due.is("to step 10", x.change(0, 3, 10), -1);
        due.is("to step 9", x.change(0, 3, 9), 1);
        due.is("to step 1", x.change(0, 3, 1), 9);
    }

    private static void seenAtTheFirstBeatIfThereIsNoneAhead() {
        LampThatFollows x = Due.dancing(7, 30, 12);
        x.lamp(STEADY, 20, 0, 1);
        int[] seen = {7, 7, 30, 12};
        for (int b = 0; b <= 3; b++) {
            due.is("goal ahead of beat " + b, x.lampOf(0, 4), seen[b]);
            x.beat();
        }
        x.anew();
        due.is("goal anew", x.lampOf(0, 4), 7);
    }

    private static void aheadOfTheFirstBeatAndBehindTheLastOne() {
        int[] shifts = {0, 1, 2, 14, 15, 16, 17, 98, 99};
        LampThatFollows x = new LampThatFollows();
        for (int b = 0; b < 16; b++) x.dance(2 * b + 3);
        x.lamp(STEADY, 20, 0, 1);
        for (int b = 0; b <= 16; b++) {
            int seen = b == 0 ? 0 : b - 1;
            for (int n : shifts) {
                Due.rules(x, "hand lead " + n + ";");
                due.is("lead " + n + " at " + b, x.lampOf(0, 4), 2 * (seen + n > 15 ? 15 : seen + n) + 3);
                Due.rules(x, "hand lag " + n + ";");
                due.is("lag " + n + " at " + b, x.lampOf(0, 4), 2 * (seen < n ? 0 : seen - n) + 3);
            }
            x.beat();
        }
        LampThatFollows y = Due.dancing(9);
        y.lamp(STEADY, 20, 0, 1);
        Due.rules(y, "hand lead 99;");
        due.is("the only beat is the last one", y.lampOf(0, 4), 9);
        Due.rules(y, "hand lag 99;");
        due.is("the only beat is the first one", y.lampOf(0, 4), 9);
    }

    /** How far a lamp goes by a beat when she is seen so far from it. */
    private static void goes(int kind, int aim, int step, int beat, int seen, int way) {
        LampThatFollows x = new LampThatFollows();
        for (int b = 0; b < 16; b++) x.dance(seen);
        for (int b = 0; b < beat; b++) x.beat();
        x.lamp(kind, aim, 0, step);
        String told = "kind " + kind + " at " + aim + " by " + step + " to " + seen + " at beat " + beat;
        due.is(told + ", asked", x.lampOf(0, 5), aim + way);
        x.beat();
        due.is(told + ", gone", x.lampOf(0, 1), aim + way);
    }

    private static void steadyIsHeldToItsStep() {
        int[][] ways = {{0, 0}, {1, 1}, {2, 2}, {3, 3}, {4, 3}, {20, 3}};
        for (int[] w : ways) {
            goes(STEADY, 20, 3, 0, 20 + w[0], w[1]);
            goes(STEADY, 20, 3, 0, 20 - w[0], -w[1]);
        }
        goes(STEADY, 0, 1, 0, 40, 1);
        goes(STEADY, 0, 9, 0, 40, 9);
        goes(STEADY, 40, 9, 0, 0, -9);
    }

    private static void quickIsHeldToTwiceItsStep() {
        int[][] ways = {{0, 0}, {1, 1}, {3, 3}, {4, 4}, {5, 5}, {6, 6}, {7, 6}, {20, 6}};
        for (int[] w : ways) {
            goes(QUICK, 20, 3, 0, 20 + w[0], w[1]);
            goes(QUICK, 20, 3, 0, 20 - w[0], -w[1]);
        }
        goes(QUICK, 0, 1, 0, 40, 2);
        goes(QUICK, 0, 9, 0, 40, 18);
        goes(QUICK, 40, 9, 0, 0, -18);
    }

    private static void nervousGoes1FartherIfThatIsNot0() {
        int[][] ways = {{0, 0}, {1, 2}, {2, 3}, {5, 6}, {6, 7}, {7, 7}, {20, 7}};
        for (int[] w : ways) {
            goes(NERVOUS, 20, 3, 0, 20 + w[0], w[1]);
            goes(NERVOUS, 20, 3, 0, 20 - w[0], -w[1]);
        }
        goes(NERVOUS, 0, 1, 0, 40, 3);
        goes(NERVOUS, 0, 9, 0, 40, 19);
    }

    private static void aimIsHeldTo0To40() {
        goes(NERVOUS, 36, 2, 0, 40, 4);
        goes(NERVOUS, 35, 2, 0, 40, 5);
        goes(NERVOUS, 37, 2, 0, 40, 3);
        goes(NERVOUS, 39, 2, 0, 40, 1);
        goes(NERVOUS, 40, 2, 0, 40, 0);
        goes(NERVOUS, 39, 2, 0, 39, 0);
        goes(NERVOUS, 38, 2, 0, 39, 2);
        goes(NERVOUS, 40, 2, 0, 39, -2);
        goes(NERVOUS, 5, 2, 0, 0, -5);
        goes(NERVOUS, 4, 2, 0, 0, -4);
        goes(NERVOUS, 3, 2, 0, 0, -3);
        goes(NERVOUS, 1, 2, 0, 0, -1);
        goes(NERVOUS, 0, 2, 0, 0, 0);
        goes(NERVOUS, 2, 2, 0, 1, -2);
        goes(NERVOUS, 0, 2, 0, 1, 2);
    }

    private static void oldGoesHalfCutTowards0() {
        int[][] ways = {{0, 0}, {1, 0}, {2, 1}, {3, 1}, {4, 2}, {5, 2}, {6, 3}, {7, 3}, {8, 3}, {9, 3}, {20, 3}};
        for (int[] w : ways) {
            goes(OLD, 20, 3, 0, 20 + w[0], w[1]);
            goes(OLD, 20, 3, 0, 20 - w[0], -w[1]);
        }
        goes(OLD, 0, 9, 0, 17, 8);
        goes(OLD, 0, 9, 0, 18, 9);
        goes(OLD, 0, 9, 0, 40, 9);
        goes(OLD, 40, 9, 0, 23, -8);
    }

    private static void tiredStandsIfBeatBy4Leaves3() {
        for (int beat = 0; beat < 16; beat++) {
            boolean stands = beat == 3 || beat == 7 || beat == 11 || beat == 15;
            goes(TIRED, 20, 3, beat, 23, stands ? 0 : 1);
            goes(TIRED, 20, 3, beat, 17, stands ? 0 : -1);
            goes(TIRED, 20, 3, beat, 21, 0);
            goes(TIRED, 20, 3, beat, 40, stands ? 0 : 3);
            goes(OLD, 20, 3, beat, 40, 3);
        }
    }

    /** One lamp that stays, and one beat at which she is so far from it. */
    private static LampThatFollows off(int aim, int size, int place) {
        LampThatFollows x = Due.dancing(place);
        x.lamp(STEADY, aim, size, 1);
        Due.rules(x, "hand wait;");
        return x;
    }

    private static void sightAtEachSize() {
        for (int size = 0; size <= 9; size++) {
            for (int side = -1; side <= 1; side += 2) {
                sight(20, size, 20 + side * size, 2);
                sight(20, size, 20 + side * (size + 1), 1);
                sight(20, size, 20 + side * (size + 2), 0);
            }
        }
    }

    private static void sight(int aim, int size, int place, int sight) {
        LampThatFollows x = off(aim, size, place);
        String told = "size " + size + " at " + aim + ", she at " + place;
        for (int s = 0; s <= 2; s++) due.is(told + ", sight " + s, x.in(s), s == sight ? 1 : 0);
        due.is(told + ", worth", x.beat(), sight == 2 ? 10 - size : sight == 1 ? 1 : 0);
    }

    private static void sightAtBothEndsOfThePlaces() {
        sight(0, 0, 0, 2);
        sight(0, 0, 1, 1);
        sight(0, 0, 2, 0);
        sight(40, 0, 40, 2);
        sight(40, 0, 39, 1);
        sight(40, 0, 38, 0);
        sight(0, 9, 9, 2);
        sight(0, 9, 10, 1);
        sight(0, 9, 11, 0);
        sight(40, 9, 31, 2);
        sight(40, 9, 30, 1);
        sight(40, 9, 29, 0);
        sight(0, 9, 40, 0);
        sight(40, 9, 0, 0);
    }

    private static void worthOfTheLeastAndTheGreatestSize() {
        due.is("size 0 in", off(20, 0, 20).beat(), 10);
        due.is("size 0 at the rim", off(20, 0, 21).beat(), 1);
        due.is("size 0 out", off(20, 0, 22).beat(), 0);
        due.is("size 9 in", off(20, 9, 29).beat(), 1);
        due.is("size 9 at the rim", off(20, 9, 30).beat(), 1);
        due.is("size 9 out", off(20, 9, 31).beat(), 0);
    }

    private static void theFirstAndTheLastLampAreHeld() {
        for (int act = 0; act <= 6; act++) {
            LampThatFollows x = Due.dancing(30);
            for (int l = 0; l < 6; l++) x.lamp(STEADY, 20, 0, 1);
            x.sheet(0, 0, 1);
            x.write(0, 0, act);
            due.is("a beat with act " + act, x.goAll(0, 0, 1), 0);
            for (int l = 0; l < 6; l++) due.is("lamp " + l + " by act " + act, x.lampOf(l, 1), l == act - 1 ? 20 : 21);
        }
    }

    private static void setsHaveABitForEachLamp() {
        LampThatFollows x = Due.dancing(20);
        for (int l = 0; l < 6; l++) x.lamp(STEADY, 20, l, 1);
        due.is("all six are in", x.in(2), 63);
        due.is("none is at the rim", x.in(1), 0);
        for (int l = 0; l < 6; l++) {
            x.change(l, 1, 40);
            due.is("the first " + (l + 1) + " are out", x.in(0), (2 << l) - 1);
        }
        due.is("none is in", x.in(2), 0);
    }
}
