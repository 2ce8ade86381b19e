/** Promises 13 to 22: beats, and what the rest would be. */
public final class BeatsTest {
    private static final Due due = new Due("BeatsTest");

    public static void main(String[] args) {
        beats();
        sights();
        restOfOne();
        restOfAll();
        losses();
        crossings();
        sizes();
        aims();
        stepsFor();
        whoMustBeThere();
        askingChangesNothing();
        due.end();
    }

    private static void beats() {
        LampThatFollows x = new LampThatFollows();
        due.is("beat of no dance", x.beat(), -4);
        x.dance(10);
        x.dance(14);
        due.is("a beat without lamps", x.beat(), 0);
        due.is("beat", x.state(0), 1);
        x.lamp(1, 12, 3, 5);
        x.lamp(1, 10, 0, 1);
        x.lamp(1, 5, 3, 5);
        // she is seen at 10 and goes to 14: 10 at the rim of 3, out of 0, at the rim of 3
        due.is("beat", x.beat(), 2);
        due.is("went to where she was", x.lampOf(0, 1), 10);
        due.is("score", x.state(2), 2);
        due.is("over", x.state(3), 1);
        due.is("beat when it is over", x.beat(), -4);
        due.is("no beat more", x.state(0), 2);
        x.dance(14);
        due.is("over no more", x.state(3), 0);
        due.is("beat", x.beat(), 7 + 0 + 7);
        due.is("score", x.state(2), 16);
    }

    private static void sights() {
        LampThatFollows x = Due.dancing(20, 40);
        int[] aims = {20, 17, 16, 23, 24, 25};
        for (int aim : aims) x.lamp(1, aim, 3, 1);
        due.is("out", x.in(0), 0b100000);
        due.is("rim", x.in(1), 0b010100);
        due.is("in", x.in(2), 0b001011);
        due.is("no sight", x.in(3), -1);
        due.is("no sight", x.in(-1), -1);
        x.beat();
        // the last one went from 25 to 24 and has her at the rim
        due.is("seen at the beat that went by", x.in(2), 0b011111);
        x.beat();
        due.is("seen at the last one", x.in(0), 0b111111);
        due.is("score is of IN 7, at the rim 1", x.state(2), 36);
        LampThatFollows y = Due.dancing(20);
        y.lamp(1, 20, 0, 1);
        y.lamp(1, 21, 0, 1);
        y.lamp(1, 22, 0, 1);
        y.lamp(1, 11, 9, 1);
        y.lamp(1, 10, 9, 1);
        y.lamp(1, 9, 9, 1);
        due.is("in, of the least and the greatest", y.in(2), 0b001001);
        due.is("rim, of the least and the greatest", y.in(1), 0b010010);
        due.is("out, of the least and the greatest", y.in(0), 0b100100);
    }

    /** She is seen at 10, 10, 20, 20 ahead of 10, 20, 20, 4. */
    private static LampThatFollows staged() {
        LampThatFollows x = Due.dancing(10, 20, 20, 4);
        x.lamp(1, 10, 4, 5);
        x.lamp(2, 30, 0, 5);
        return x;
    }

    private static void restOfOne() {
        LampThatFollows x = staged();
        // lamp 0 goes to 10, 10, 15, 20: in, out, at the rim, out
        due.is("shows", x.shows(0), 6 + 0 + 1 + 0);
        // lamp 1 goes to 20, 10, 20, 20
        due.is("shows", x.shows(1), 0 + 0 + 10 + 0);
        due.is("shows of none", x.shows(2), -1);
        due.is("shows of none", x.shows(-1), -1);
        x.beat();
        due.is("shows yet", x.shows(0), 1);
        x.beat();
        x.beat();
        x.beat();
        due.is("shows when it is over", x.shows(0), 0);
    }

    private static void restOfAll() {
        LampThatFollows x = staged();
        int[] want = {0, 6, 6, 17, 17, 17};
        for (int n = 0; n <= 5; n++) due.is("on " + n, x.on(n), want[n]);
        due.is("on 16", x.on(16), 17);
        due.is("on 17", x.on(17), -1);
        due.is("on -1", x.on(-1), -1);
        x.beat();
        due.is("on 1 yet", x.on(1), 0);
        due.is("on 2 yet", x.on(2), 11);
        due.is("score is not told", x.state(2), 6);
    }

    private static void losses() {
        LampThatFollows x = staged();
        due.is("lost", x.lost(0), 1);
        due.is("lost", x.lost(1), 0);
        due.is("lost of none", x.lost(2), -1);
        due.is("lost of none", x.lost(-1), -1);
        x.change(0, 2, 9);
        due.is("lost, not at the rim", x.lost(0), 3);
        x.steps(3, 11);
        due.is("never lost", x.lost(0), -3);
        x.beat();
        due.is("lost yet", x.lost(1), 1);
        x.beat();
        x.beat();
        x.beat();
        due.is("lost when it is over", x.lost(1), -3);
    }

    private static void crossings() {
        LampThatFollows x = Due.dancing(20, 0, 40, 0);
        x.lamp(1, 18, 0, 1);
        x.lamp(3, 22, 0, 1);
        x.lamp(1, 20, 0, 9);
        // seen at 20, 20, 0, 40 they go 0: 19, 20, 19, 20; 1: 19, 21, 18, 21; 2: 20, 20, 11, 20
        due.is("not where they come to be the same", x.crosses(0, 1), 2);
        due.is("nowhere more behind", x.crosses(0, 2), 0);
        x.change(1, 1, 21);
        due.is("the other first", x.crosses(1, 0), 2);
        x.change(0, 1, 20);
        // 0: 20, 20, 19, 20; 1: 19, 21, 18, 21
        due.is("both ways", x.crosses(0, 1), 4);
        due.is("both ways, the other first", x.crosses(1, 0), 4);
        due.is("of one", x.crosses(1, 1), -1);
        due.is("of none", x.crosses(0, 3), -1);
        due.is("of none", x.crosses(3, 0), -1);
        due.is("of none", x.crosses(-1, 0), -1);
        due.is("of none", x.crosses(0, -1), -1);
        x.beat();
        due.is("yet", x.crosses(0, 1), 3);
        x.beat();
        x.beat();
        x.beat();
        due.is("over", x.crosses(0, 1), 0);
    }

    private static void sizes() {
        LampThatFollows x = Due.dancing(10, 14);
        x.lamp(1, 10, 9, 1);
        // size 0: 10 + 0; 3: 7 + 1; 4: 6 + 6
        due.is("sized", x.sized(0), 4);
        x.steps(1, 15);
        // size 0: 10; 5: 5 + 5
        due.is("sized, of several the least", x.sized(0), 0);
        due.is("size stays", x.lampOf(0, 2), 9);
        x.steps(1, 40);
        x.steps(0, 40);
        // it goes 11, 12: always out
        due.is("sized, of all the least", x.sized(0), 0);
        x.steps(0, 21);
        x.steps(1, 21);
        // it goes 11, 12: 9 has it at the rim, then in
        due.is("sized, the greatest", x.sized(0), 9);
        due.is("sized of none", x.sized(1), -1);
        due.is("sized of none", x.sized(-1), -1);
        due.is("by the rule for its size", Due.rules(x, "hand if size = 3 lead 0;hand wait;"), 1 + 1);
        x.change(0, 1, 17);
        // 3 goes on to 18, 19 and has her in twice; 4 stays at 17 and has her in twice, too
        due.is("sized by rules", x.sized(0), 3);
        x.beat();
        x.beat();
        due.is("sized when it is over", x.sized(0), 0);
    }

    private static void aims() {
        LampThatFollows x = Due.dancing(10, 10, 40);
        x.lamp(1, 30, 0, 1);
        // from 9 on it goes to 10, and stays there
        due.is("aimed", x.aimed(0), 9);
        due.is("aim stays", x.lampOf(0, 1), 30);
        x.change(0, 3, 9);
        due.is("aimed with long steps", x.aimed(0), 1);
        x.steps(0, 40);
        x.steps(1, 40);
        due.is("aimed far", x.aimed(0), 31);
        Due.rules(x, "hand wait;");
        due.is("aimed, the greatest", x.aimed(0), 40);
        due.is("aimed of none", x.aimed(1), -1);
        due.is("aimed of none", x.aimed(-1), -1);
        x.beat();
        x.beat();
        x.beat();
        due.is("aimed when it is over", x.aimed(0), 0);
    }

    private static void stepsFor() {
        LampThatFollows x = Due.dancing(10, 10, 20, 20);
        x.lamp(1, 10, 9, 4);
        due.is("the least step", x.stepFor(0), 1);
        x.change(0, 2, 1);
        due.is("none", x.stepFor(0), -3);
        x.steps(2, 12);
        // 10, 10, 10 at the rim of 12, then to 20 less 2 at least
        due.is("none", x.stepFor(0), -3);
        x.steps(3, 14);
        due.is("the least step", x.stepFor(0), 2);
        due.is("step stays", x.lampOf(0, 3), 4);
        x.change(0, 1, 1);
        due.is("the least step, at the rim", x.stepFor(0), 7);
        x.change(0, 1, 0);
        due.is("the least step", x.stepFor(0), 8);
        x.change(0, 2, 0);
        due.is("none, 9 being too short", x.stepFor(0), -3);
        due.is("of none", x.stepFor(1), -1);
        due.is("of none", x.stepFor(-1), -1);
        for (int b = 0; b < 4; b++) x.beat();
        due.is("over", x.stepFor(0), 1);
        LampThatFollows y = Due.dancing(10, 10);
        y.lamp(1, 0, 0, 1);
        due.is("the greatest step", y.stepFor(0), 9);
    }

    private static void whoMustBeThere() {
        LampThatFollows x = Due.dancing(5, 35, 5);
        due.is("none without lamps", x.who(), -3);
        Due.rules(x, "hand wait;");
        x.lamp(1, 35, 4, 1);
        due.is("not one", x.who(), -3);
        x.lamp(1, 10, 4, 1);
        due.is("the rim is not in", x.who(), -3);
        x.lamp(1, 5, 0, 1);
        due.is("two", x.who(), 0b101);
        x.lamp(1, 6, 1, 1);
        due.is("of several the least", x.who(), 0b101);
        x.lamp(1, 20, 9, 1);
        due.is("two", x.who(), 0b101);
        x.change(0, 1, 5);
        x.change(3, 1, 35);
        due.is("two, the least", x.who(), 0b1001);
        x.beat();
        due.is("yet", x.who(), 0b1001);
        x.beat();
        due.is("one yet", x.who(), 0b1);
        x.change(0, 1, 35);
        due.is("another one yet", x.who(), 0b100);
        x.beat();
        due.is("over", x.who(), 0);
        LampThatFollows y = Due.dancing(0, 10, 20, 30, 40);
        Due.rules(y, "hand wait;");
        for (int l = 0; l < 6; l++) y.lamp(1, l == 0 ? 7 : 10 * l - 10, 0, 1);
        due.is("all but one", y.who(), 0b111110);
        y.lamp(1, 7, 0, 1);
        y.change(0, 1, 25);
        y.change(0, 2, 5);
        due.is("four of six", y.who(), 0b100111);
        LampThatFollows z = Due.dancing(15, 25);
        Due.rules(z, "hand wait;");
        z.lamp(1, 15, 0, 1);
        z.lamp(1, 25, 0, 1);
        due.is("both", z.who(), 0b11);
        z.lamp(1, 20, 9, 1);
        due.is("fewer go before less", z.who(), 0b100);
    }

    private static void askingChangesNothing() {
        LampThatFollows x = staged();
        x.shows(0);
        x.on(4);
        x.lost(0);
        x.crosses(0, 1);
        x.sized(0);
        x.aimed(0);
        x.stepFor(0);
        x.who();
        due.is("beat", x.state(0), 0);
        due.is("score", x.state(2), 0);
        int[] want = {10, 4, 5, 30, 0, 5};
        for (int i = 0; i < 6; i++) due.is("lamp", x.lampOf(i / 3, 1 + i % 3), want[i]);
    }
}
