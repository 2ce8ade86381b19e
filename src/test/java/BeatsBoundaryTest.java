/** The boundary cases that promises 13 to 22 name: beats, and what the rest would be. */
public final class BeatsBoundaryTest {
    private static final Due due = new Due("BeatsBoundaryTest");
    private static final int MIN = Integer.MIN_VALUE, MAX = Integer.MAX_VALUE;
    private static final int[] NO_LAMPS = {MIN, -1, 1, 2, 5, 6, MAX};

    public static void main(String[] args) {
        promise13Over();
        promise13WithoutLamps();
        promise14SightIs0To2();
        promise14WithoutLamps();
        promise15NoSuchLamp();
        promise15BehindTheLastBeat();
        promise16NIs0To16();
        promise16FewerIfOver();
        promise17NoSuchLamp();
        promise17NeverOut();
        promise17TheRimIsNotOut();
        promise17TheFirstAndTheLastBeat();
        promise18NoSuchLamps();
        promise18TheSameIsNeitherLessNorMore();
        promise18NoBeats();
        promise19OfSeveralTheLeast();
        promise19TheLeastAndTheGreatest();
        promise20OfSeveralTheLeast();
        promise20TheLeastAndTheGreatest();
        promise20NoAimBehind40();
        promise21TheLeastAndTheGreatest();
        promise21None();
        promise22None();
        promise22OfSeveralTheLeast();
        promise22AllSixAndNone();
        due.end();
    }

    private static LampThatFollows staying(int... places) {
        LampThatFollows x = Due.dancing(places);
        Due.rules(x, "hand wait;");
        return x;
    }

    private static void goAllBeats(LampThatFollows x) {
        int yet = x.state(1) - x.state(0);
        for (int b = 0; b < yet; b++) x.beat();
    }

    private static void promise13Over() {
        LampThatFollows x = staying(20, 20);
        x.lamp(1, 20, 4, 1);
        due.is("the first", x.beat(), 6);
        due.is("the last", x.beat(), 6);
        for (int i = 0; i < 3; i++) due.is("over", x.beat(), -4);
        due.is("the score stays", x.state(2), 12);
        due.is("the beat stays", x.state(0), 2);
        x.dance(25);
        due.is("one more", x.beat(), 1);
        due.is("over again", x.beat(), -4);
    }

    private static void promise13WithoutLamps() {
        LampThatFollows x = Due.dancing(20);
        due.is("worth of no lamps", x.beat(), 0);
        due.is("it went by", x.state(0), 1);
    }

    private static void promise14SightIs0To2() {
        LampThatFollows x = Due.dancing(20);
        for (int aim = 18; aim <= 23; aim++) x.lamp(1, aim, 1, 1);
        due.is("out", x.in(0), 0b100000);
        due.is("rim", x.in(1), 0b010001);
        due.is("in", x.in(2), 0b001110);
        for (int sight : new int[] {MIN, -1, 3, MAX}) due.is("sight " + sight, x.in(sight), -1);
    }

    private static void promise14WithoutLamps() {
        LampThatFollows x = Due.dancing(20);
        for (int sight = 0; sight <= 2; sight++) due.is("no lamps", x.in(sight), 0);
        LampThatFollows y = new LampThatFollows();
        for (int sight = 0; sight <= 2; sight++) due.is("no lamps, no beats", y.in(sight), 0);
        due.is("sight 3 of none", y.in(3), -1);
    }

    private static void promise15NoSuchLamp() {
        LampThatFollows x = staying(20);
        x.lamp(1, 20, 0, 1);
        for (int l : NO_LAMPS) due.is("lamp " + l, x.shows(l), -1);
        due.is("the one that is", x.shows(0), 10);
    }

    private static void promise15BehindTheLastBeat() {
        LampThatFollows x = staying(20, 20);
        x.lamp(1, 20, 0, 1);
        due.is("two beats", x.shows(0), 20);
        x.beat();
        due.is("one beat", x.shows(0), 10);
        x.beat();
        due.is("none", x.shows(0), 0);
        due.is("no such lamp, when it is over", x.shows(1), -1);
    }

    private static void promise16NIs0To16() {
        LampThatFollows x = new LampThatFollows();
        for (int b = 0; b < 16; b++) x.dance(20);
        x.lamp(1, 20, 0, 1);
        for (int n = 0; n <= 16; n++) due.is("on " + n, x.on(n), 10 * n);
        for (int n : new int[] {MIN, -1, 17, MAX}) due.is("on " + n, x.on(n), -1);
    }

    private static void promise16FewerIfOver() {
        LampThatFollows x = staying(20, 20, 20);
        x.lamp(1, 20, 0, 1);
        for (int b = 0; b <= 3; b++) {
            for (int n = 0; n <= 16; n++) due.is("on " + n + " at " + b, x.on(n), 10 * (n < 3 - b ? n : 3 - b));
            if (b < 3) x.beat();
        }
        due.is("on 17, when it is over", x.on(17), -1);
    }

    private static void promise17NoSuchLamp() {
        LampThatFollows x = staying(40);
        x.lamp(1, 0, 0, 1);
        for (int l : NO_LAMPS) due.is("lamp " + l, x.lost(l), -1);
        due.is("the one that is", x.lost(0), 0);
    }

    private static void promise17NeverOut() {
        LampThatFollows x = staying(20, 21, 19);
        x.lamp(1, 20, 1, 1);
        due.is("never out", x.lost(0), -3);
        x.change(0, 1, 0);
        due.is("out", x.lost(0), 0);
        goAllBeats(x);
        due.is("no beats to be out at", x.lost(0), -3);
    }

    private static void promise17TheRimIsNotOut() {
        LampThatFollows x = staying(22, 18, 23);
        x.lamp(1, 20, 1, 1);
        due.is("out behind the rim", x.lost(0), 2);
        x.steps(2, 22);
        due.is("always at the rim", x.lost(0), -3);
    }

    private static void promise17TheFirstAndTheLastBeat() {
        LampThatFollows x = new LampThatFollows();
        for (int b = 0; b < 16; b++) x.dance(20);
        Due.rules(x, "hand wait;");
        x.lamp(1, 20, 0, 1);
        x.steps(15, 40);
        due.is("at the last of 16", x.lost(0), 15);
        x.steps(0, 40);
        due.is("at the first", x.lost(0), 0);
        x.beat();
        due.is("one that went by counts nothing", x.lost(0), 15);
        for (int b = 0; b < 14; b++) x.beat();
        due.is("ahead of the last", x.lost(0), 15);
    }

    private static void promise18NoSuchLamps() {
        LampThatFollows x = Due.dancing(20);
        x.lamp(1, 0, 0, 1);
        x.lamp(1, 40, 0, 1);
        for (int l : new int[] {MIN, -1, 2, 5, 6, MAX}) {
            due.is("the first, " + l, x.crosses(l, 0), -1);
            due.is("the other, " + l, x.crosses(0, l), -1);
            due.is("both, " + l, x.crosses(l, l), -1);
        }
        due.is("one lamp twice", x.crosses(0, 0), -1);
        due.is("one lamp twice", x.crosses(1, 1), -1);
        due.is("two lamps", x.crosses(0, 1), 0);
    }

    private static void promise18TheSameIsNeitherLessNorMore() {
        // the steady one stays, the quick one goes for 20
        LampThatFollows x = Due.dancing(20, 20, 20);
        Due.rules(x, "steady wait;");
        x.lamp(1, 20, 0, 1);
        x.lamp(2, 18, 0, 1);
        due.is("from less to the same", x.crosses(0, 1), 0);
        x.change(0, 1, 18);
        due.is("from the same to more", x.crosses(0, 1), 0);
        x.change(0, 1, 19);
        due.is("from less to more", x.crosses(0, 1), 1);
        due.is("from more to less", x.crosses(1, 0), 1);
        x.change(1, 1, 22);
        x.change(0, 1, 21);
        due.is("the other way", x.crosses(0, 1), 1);
        x.change(0, 1, 20);
        due.is("from more to the same", x.crosses(0, 1), 0);
    }

    private static void promise18NoBeats() {
        LampThatFollows x = new LampThatFollows();
        x.lamp(1, 0, 0, 1);
        x.lamp(1, 40, 0, 1);
        due.is("no dance", x.crosses(0, 1), 0);
        x.dance(20);
        x.beat();
        due.is("over", x.crosses(0, 1), 0);
        due.is("over, and one lamp twice", x.crosses(1, 1), -1);
    }

    private static void promise19OfSeveralTheLeast() {
        LampThatFollows x = staying(20, 25);
        x.lamp(1, 20, 9, 1);
        // 0: 10; 4: 6 and 1; 5: 5 and 5
        due.is("0 and 5 are worth 10", x.sized(0), 0);
        x.steps(1, 24);
        // 0: 10; 4: 6 and 6
        due.is("4 is worth 12", x.sized(0), 4);
        for (int l : NO_LAMPS) due.is("lamp " + l, x.sized(l), -1);
        due.is("its size stays", x.lampOf(0, 2), 9);
    }

    private static void promise19TheLeastAndTheGreatest() {
        LampThatFollows x = staying(20, 20);
        x.lamp(1, 20, 9, 1);
        due.is("the least", x.sized(0), 0);
        x.change(0, 1, 11);
        // 8 has her at the rim, for 1 each; 9 has her in, for 1 each
        due.is("at the rim is as much as in", x.sized(0), 8);
        x.change(0, 1, 10);
        due.is("the greatest", x.sized(0), 9);
        x.change(0, 1, 9);
        due.is("none has her, the least", x.sized(0), 0);
        goAllBeats(x);
        x.change(0, 1, 20);
        due.is("no beats, the least", x.sized(0), 0);
    }

    private static void promise20OfSeveralTheLeast() {
        LampThatFollows x = staying(20, 20);
        x.lamp(1, 5, 3, 1);
        due.is("17 to 23 are worth 14", x.aimed(0), 17);
        x.steps(1, 24);
        due.is("21 to 23 are worth 14", x.aimed(0), 21);
        x.steps(1, 30);
        due.is("either is worth 7", x.aimed(0), 17);
        for (int l : NO_LAMPS) due.is("lamp " + l, x.aimed(l), -1);
        due.is("its aim stays", x.lampOf(0, 1), 5);
    }

    private static void promise20TheLeastAndTheGreatest() {
        LampThatFollows x = staying(0, 40);
        x.lamp(1, 20, 0, 1);
        due.is("the least", x.aimed(0), 0);
        x.beat();
        due.is("the greatest", x.aimed(0), 40);
        x.beat();
        due.is("no beats, the least", x.aimed(0), 0);
    }

    private static void promise20NoAimBehind40() {
        LampThatFollows x = Due.dancing(0, 40, 40);
        x.beat();
        x.lamp(1, 5, 0, 9);
        // all go down to where she was, but what stood at 41 would have her at its rim
        Due.rules(x, "hand if aim>40 wait;hand lag 99;");
        due.is("no aim is worth anything", x.aimed(0), 0);
        Due.rules(x, "hand if aim=40 wait;hand lag 99;");
        due.is("40 is", x.aimed(0), 40);
    }

    private static void promise21TheLeastAndTheGreatest() {
        LampThatFollows x = Due.dancing(20, 20);
        x.lamp(1, 20, 0, 5);
        due.is("there", x.stepFor(0), 1);
        for (int step = 1; step <= 9; step++) {
            // the rim is no loss, so it may be 1 short
            x.change(0, 1, 20 - step - 1);
            due.is("so far", x.stepFor(0), step);
            x.change(0, 1, 20 + step + 1);
            due.is("so far back", x.stepFor(0), step);
        }
        due.is("its step stays", x.lampOf(0, 3), 5);
        x.change(0, 1, 9);
        due.is("farther", x.stepFor(0), -3);
        goAllBeats(x);
        due.is("no beats", x.stepFor(0), 1);
    }

    private static void promise21None() {
        LampThatFollows x = staying(20);
        x.lamp(1, 18, 0, 9);
        due.is("none", x.stepFor(0), -3);
        for (int l : NO_LAMPS) due.is("lamp " + l, x.stepFor(l), -1);
        x.change(0, 1, 19);
        due.is("at the rim", x.stepFor(0), 1);
        goAllBeats(x);
        x.change(0, 1, 0);
        due.is("no beats", x.stepFor(0), 1);
        due.is("no such lamp, when it is over", x.stepFor(1), -1);
    }

    private static void promise22None() {
        LampThatFollows x = staying(20);
        due.is("no lamps", x.who(), -3);
        x.lamp(1, 18, 1, 1);
        due.is("the rim is dark", x.who(), -3);
        x.change(0, 1, 19);
        due.is("in", x.who(), 1);
        x.dance(0);
        due.is("one beat dark", x.who(), -3);
        goAllBeats(x);
        due.is("no beats", x.who(), 0);
        due.is("no beats, no lamps", new LampThatFollows().who(), 0);
    }

    private static void promise22OfSeveralTheLeast() {
        LampThatFollows x = staying(10, 30);
        x.lamp(1, 30, 0, 1);
        x.lamp(1, 30, 0, 1);
        x.lamp(1, 10, 0, 1);
        x.lamp(1, 10, 0, 1);
        due.is("of four pairs the least", x.who(), 0b0101);
        x.change(0, 1, 0);
        due.is("of two pairs the least", x.who(), 0b0110);
        x.lamp(1, 20, 9, 1);
        due.is("one that has her at the rim alone", x.who(), 0b0110);
        x.steps(0, 11);
        x.steps(1, 29);
        due.is("one alone, though it is more", x.who(), 0b10000);
    }

    private static void promise22AllSixAndNone() {
        LampThatFollows x = staying(0, 8, 16, 24, 32, 40);
        for (int l = 0; l < 6; l++) x.lamp(1, 8 * l, 0, 1);
        for (int b = 0; b < 6; b++) {
            due.is("all that must be there at " + b, x.who(), 63 & -1 << b);
            x.beat();
        }
        due.is("none must be there", x.who(), 0);
    }
}
