/** The boundary cases that promises 28 to 34 name: reports of walks in the dark, beats by lot. */
public final class DarkBoundaryTest {
    private static final Due due = new Due("DarkBoundaryTest");
    private static final int MIN = Integer.MIN_VALUE, MAX = Integer.MAX_VALUE;
    /** From these z goes so that she slips by -2, -1, 0, 1, 2. */
    private static final int[] SLIPS = new int[5];

    public static void main(String[] args) {
        findSlips();
        promise28EachNumber();
        promise28BadAndFull();
        promise29NoneAndAll();
        promise30WhatIs0To2();
        promise30WithoutReports();
        promise30None();
        promise30TheLeastStartThenPace();
        promise30HeldTo0To40();
        promise30EachSight();
        promise31SomeFit();
        promise31TheLeastReport();
        promise31TheFirstAndTheLastOfSix();
        promise31NoSuchReport();
        promise32AnyInt();
        promise33Over();
        promise33ZWraps();
        promise33HeldTo0To40();
        promise33ItStaysSo();
        promise33TheFirstBeatSlipsAheadOfTheGoal();
        promise34NIs1To40();
        promise34VIs0To999();
        promise34WorthVOrMore();
        promise34ZGoesOnFromOneToTheNext();
        promise34AllIsAsItWas();
        promise34Over();
        due.end();
    }

    private static int next(int z) {
        return (int) ((z * 1103515245L + 12345L) & 0xffffffffL);
    }

    private static int slip(int z) {
        long unsigned = z & 0xffffffffL;
        return (int) (unsigned / 65536 % 5) - 2;
    }

    private static void findSlips() {
        for (int z = 0; z < 100; z++) SLIPS[slip(next(z)) + 2] = z;
        for (int s = 0; s < 5; s++) due.is("a z for each slip", slip(next(SLIPS[s])), s - 2);
    }

    private static void promise28EachNumber() {
        LampThatFollows x = new LampThatFollows();
        int[] far = {MIN, -1, MAX};
        for (int v : far) {
            due.is("beat " + v, x.report(v, 1, 1, 1), -1);
            due.is("aim " + v, x.report(1, v, 1, 1), -1);
            due.is("size " + v, x.report(1, 1, v, 1), -1);
            due.is("sight " + v, x.report(1, 1, 1, v), -1);
        }
        due.is("beat 16", x.report(16, 1, 1, 1), -1);
        due.is("aim 41", x.report(1, 41, 1, 1), -1);
        due.is("size 10", x.report(1, 1, 10, 1), -1);
        due.is("sight 3", x.report(1, 1, 1, 3), -1);
        due.is("none came", x.many(3), 0);
        due.is("the least of each", x.report(0, 0, 0, 0), 0);
        due.is("the greatest of each", x.report(15, 40, 9, 2), 1);
        due.is("beats are not those of the dance", x.state(1), 0);
    }

    private static void promise28BadAndFull() {
        LampThatFollows x = new LampThatFollows();
        for (int r = 0; r < 6; r++) due.is("report " + r, x.report(r, 20, 9, 2), r);
        int walks = x.span(0);
        due.is("the seventh", x.report(0, 0, 0, 2), -2);
        due.is("a bad beat, and full", x.report(16, 1, 1, 1), -1);
        due.is("a bad aim, and full", x.report(1, 41, 1, 1), -1);
        due.is("a bad size, and full", x.report(1, 1, 10, 1), -1);
        due.is("a bad sight, and full", x.report(1, 1, 1, 3), -1);
        due.is("six", x.many(3), 6);
        due.is("the walks stay", x.span(0), walks);
    }

    private static void promise29NoneAndAll() {
        LampThatFollows x = new LampThatFollows();
        due.is("none", x.forget(), 0);
        for (int r = 0; r < 6; r++) x.report(0, 0, 0, r % 2);
        due.is("all", x.forget(), 6);
        due.is("none again", x.forget(), 0);
        due.is("all walks fit", x.span(0), 205);
        due.is("the first one anew", x.report(0, 0, 0, 2), 0);
    }

    private static void promise30WhatIs0To2() {
        LampThatFollows x = new LampThatFollows();
        for (int what : new int[] {MIN, -1, 3, MAX}) due.is("what " + what, x.span(what), -1);
        x.report(0, 10, 0, 2);
        x.report(0, 11, 0, 2);
        for (int what : new int[] {MIN, -1, 3, MAX}) due.is("what " + what + ", and none", x.span(what), -1);
    }

    private static void promise30WithoutReports() {
        LampThatFollows x = new LampThatFollows();
        due.is("41 starts, 5 paces", x.span(0), 205);
        due.is("the least start", x.span(1), 0);
        due.is("the least pace, -2, and 2", x.span(2), 0);
    }

    private static void promise30None() {
        LampThatFollows x = new LampThatFollows();
        x.report(0, 10, 0, 2);
        x.report(0, 10, 0, 1);
        due.is("how many", x.span(0), 0);
        due.is("start", x.span(1), -3);
        due.is("pace", x.span(2), -3);
    }

    private static void promise30TheLeastStartThenPace() {
        LampThatFollows x = new LampThatFollows();
        x.report(1, 20, 0, 2);
        // 18 and 2, 19 and 1, 20 and 0, 21 and -1, 22 and -2
        due.is("how many", x.span(0), 5);
        due.is("the least start, not pace", x.span(1), 18);
        due.is("its pace, and 2", x.span(2), 4);
        x.forget();
        x.report(0, 20, 0, 2);
        due.is("one start, of all paces", x.span(0), 5);
        due.is("the start", x.span(1), 20);
        due.is("the least pace", x.span(2), 0);
        x.report(1, 18, 0, 0);
        due.is("neither -2 nor, at the rim, -1", x.span(2), 2);
        x.report(1, 22, 0, 1);
        due.is("1, at the rim", x.span(2), 3);
        due.is("one walk", x.span(0), 1);
        x.report(1, 22, 0, 0);
        due.is("no walk", x.span(0), 0);
    }

    private static void promise30HeldTo0To40() {
        LampThatFollows x = new LampThatFollows();
        x.report(0, 1, 0, 2);
        x.report(15, 0, 0, 2);
        due.is("from 1 by -2 and -1 to 0", x.span(0), 2);
        due.is("the least pace", x.span(2), 0);
        x.forget();
        x.report(0, 39, 0, 2);
        x.report(15, 40, 0, 2);
        due.is("from 39 by 1 and 2 to 40", x.span(0), 2);
        due.is("the least pace", x.span(2), 3);
        x.forget();
        x.report(0, 40, 0, 2);
        x.report(15, 40, 0, 2);
        due.is("from 40 by 0, 1 and 2", x.span(0), 3);
        x.forget();
        x.report(0, 30, 0, 2);
        x.report(15, 0, 0, 2);
        due.is("from 30 by -2 to just 0", x.span(0), 1);
        x.forget();
        x.report(0, 31, 0, 2);
        x.report(15, 0, 0, 1);
        due.is("from 31 by -2 to 1", x.span(0), 1);
    }

    private static void promise30EachSight() {
        LampThatFollows x = new LampThatFollows();
        for (int size = 0; size <= 9; size++) {
            int[] places = {41 - (2 * size + 1) - 2, 2, 2 * size + 1};
            int[] starts = {0, 20 - size - 1, 20 - size};
            for (int sight = 0; sight <= 2; sight++) {
                x.report(0, 20, size, sight);
                due.is("size " + size + ", sight " + sight, x.span(0), 5 * places[sight]);
                due.is("size " + size + ", sight " + sight + ", start", x.span(1), starts[sight]);
                x.forget();
            }
        }
        x.report(0, 0, 0, 1);
        due.is("one rim at 0", x.span(0), 5);
        due.is("one rim at 0", x.span(1), 1);
        x.forget();
        x.report(0, 40, 9, 1);
        due.is("one rim at 40", x.span(0), 5);
        due.is("one rim at 40", x.span(1), 30);
    }

    private static void promise31SomeFit() {
        LampThatFollows x = new LampThatFollows();
        due.is("no reports", x.liar(), -3);
        x.report(0, 10, 0, 2);
        due.is("some fit", x.liar(), -3);
        x.report(1, 12, 0, 2);
        due.is("one fits", x.liar(), -3);
    }

    private static void promise31TheLeastReport() {
        LampThatFollows x = new LampThatFollows();
        x.report(0, 10, 0, 2);
        x.report(0, 11, 0, 2);
        due.is("either", x.liar(), 0);
        x.report(0, 11, 1, 2);
        due.is("either yet", x.liar(), 0);
        x.report(0, 10, 0, 2);
        due.is("the second alone", x.liar(), 1);
    }

    private static void promise31TheFirstAndTheLastOfSix() {
        for (int lies = 0; lies < 6; lies++) {
            LampThatFollows x = new LampThatFollows();
            for (int r = 0; r < 6; r++) x.report(r, r == lies ? 40 : 10 + r, 0, 2);
            due.is("none fits", x.span(0), 0);
            due.is("report " + lies, x.liar(), lies);
            due.is("reports stay", x.many(3), 6);
        }
    }

    private static void promise31NoSuchReport() {
        LampThatFollows x = new LampThatFollows();
        x.report(0, 10, 0, 2);
        x.report(0, 20, 0, 2);
        x.report(0, 30, 0, 2);
        due.is("two too many", x.liar(), -3);
        x.forget();
        x.report(0, 10, 0, 2);
        x.report(0, 10, 0, 2);
        x.report(0, 20, 0, 2);
        x.report(0, 20, 0, 2);
        due.is("but for each one some are wrong", x.liar(), -3);
        due.is("reports stay", x.many(3), 4);
        x.forget();
        x.report(0, 0, 0, 0);
        due.is("one that some fit", x.liar(), -3);
    }

    private static void promise32AnyInt() {
        LampThatFollows x = new LampThatFollows();
        int was = 1;
        for (int v : new int[] {0, MIN, MAX, -1, 1, 1, -3}) {
            due.is("what it was", x.seed(v), was);
            was = v;
        }
        x.dance(20);
        x.lot();
        due.is("what it was", x.seed(0), next(-3));
    }

    private static void promise33Over() {
        LampThatFollows x = new LampThatFollows();
        due.is("no dance", x.lot(), -4);
        x.dance(20);
        due.is("the last", x.lot(), 0);
        due.is("over", x.lot(), -4);
        due.is("z went on once", x.seed(1), next(1));
        x.dance(20);
        due.is("one more", x.lot(), 0);
        due.is("over", x.lot(), -4);
    }

    private static void promise33ZWraps() {
        for (int z : new int[] {MIN, MIN + 1, -1, 0, 1, 2, MAX - 1, MAX, 123456789, -987654321}) {
            LampThatFollows x = Due.dancing(20, 20, 20);
            x.seed(z);
            int y = z;
            for (int b = 0; b < 3; b++) {
                x.lot();
                y = next(y);
                due.is("place by z " + z, x.danceOf(b), 20 + slip(y));
            }
            due.is("z from " + z, x.seed(0), y);
        }
    }

    private static void promise33HeldTo0To40() {
        for (int s = -2; s <= 2; s++) {
            for (int place : new int[] {0, 1, 2, 3, 37, 38, 39, 40}) {
                LampThatFollows x = Due.dancing(place);
                x.seed(SLIPS[s + 2]);
                due.is("worth of no lamps", x.lot(), 0);
                int want = place + s < 0 ? 0 : place + s > 40 ? 40 : place + s;
                due.is("from " + place + " by " + s, x.danceOf(0), want);
            }
        }
    }

    private static void promise33ItStaysSo() {
        LampThatFollows x = Due.dancing(20, 30);
        x.seed(SLIPS[4]);
        x.lot();
        due.is("slipped", x.danceOf(0), 22);
        due.is("another beat stays", x.danceOf(1), 30);
        x.anew();
        due.is("anew", x.danceOf(0), 22);
        x.beat();
        due.is("goes by", x.danceOf(0), 22);
        x.anew();
        x.seed(SLIPS[3]);
        x.lot();
        due.is("slipped again", x.danceOf(0), 23);
    }

    private static void promise33TheFirstBeatSlipsAheadOfTheGoal() {
        LampThatFollows x = Due.dancing(20, 20);
        x.lamp(1, 20, 0, 9);
        x.seed(SLIPS[4]);
        due.is("it goes for where she slipped to", x.lot(), 10);
        due.is("its aim", x.lampOf(0, 1), 22);
        x.seed(SLIPS[0]);
        due.is("it goes for where she was", x.lot(), 0);
        due.is("its aim stays", x.lampOf(0, 1), 22);
        due.is("she slipped", x.danceOf(1), 18);
        due.is("score", x.state(2), 10);
    }

    private static LampThatFollows sure() {
        // wherever she slips to, she is in
        LampThatFollows x = Due.dancing(20, 20);
        x.lamp(1, 20, 5, 1);
        return x;
    }

    private static void promise34NIs1To40() {
        LampThatFollows x = sure();
        for (int n = 1; n <= 40; n++) due.is("of " + n, x.often(n, 10), n);
        for (int n : new int[] {MIN, -1, 0, 41, MAX}) due.is("of " + n, x.often(n, 10), -1);
    }

    private static void promise34VIs0To999() {
        LampThatFollows x = sure();
        for (int v : new int[] {MIN, -1, 1000, MAX}) due.is("worth " + v, x.often(1, v), -1);
        due.is("worth 0", x.often(40, 0), 40);
        due.is("worth 999", x.often(40, 999), 0);
        due.is("both", x.often(0, -1), -1);
    }

    private static void promise34WorthVOrMore() {
        LampThatFollows x = sure();
        due.is("less", x.often(40, 9), 40);
        due.is("the same", x.often(40, 10), 40);
        due.is("more", x.often(40, 11), 0);
        LampThatFollows y = new LampThatFollows();
        for (int b = 0; b < 16; b++) y.dance(0);
        Due.rules(y, "hand wait;");
        for (int l = 0; l < 6; l++) y.lamp(1, 2, 0, 1);
        due.is("the most that may be", y.often(40, 961), 0);
        due.is("score goes no matter how high", y.often(40, 0), 40);
    }

    private static void promise34ZGoesOnFromOneToTheNext() {
        LampThatFollows x = Due.dancing(20, 20, 20);
        Due.rules(x, "hand wait;");
        x.lamp(1, 20, 0, 1);
        for (int v = 0; v <= 31; v++) {
            int times = 0;
            int z = 1;
            for (int n = 1; n <= 40; n++) {
                int worth = 0;
                for (int b = 0; b < 3; b++) {
                    z = next(z);
                    worth += slip(z) == 0 ? 10 : slip(z) == 1 || slip(z) == -1 ? 1 : 0;
                }
                if (worth >= v) times++;
                due.is("of " + n + " worth " + v, x.often(n, v), times);
                if (n == 20) due.is("z as it was", x.seed(1), 1);
            }
        }
    }

    private static void promise34AllIsAsItWas() {
        LampThatFollows x = Due.dancing(20, 0, 40);
        x.lamp(2, 7, 1, 3);
        x.seed(-77);
        x.beat();
        int aim = x.lampOf(0, 1);
        int score = x.state(2);
        x.often(40, 3);
        due.is("z", x.seed(-77), -77);
        due.is("beat", x.state(0), 1);
        due.is("score", x.state(2), score);
        due.is("aim", x.lampOf(0, 1), aim);
        int[] places = {20, 0, 40};
        for (int b = 0; b < 3; b++) due.is("place", x.danceOf(b), places[b]);
    }

    private static void promise34Over() {
        LampThatFollows x = sure();
        x.beat();
        x.beat();
        due.is("worth 0 each", x.often(40, 0), 40);
        due.is("worth 1 none", x.often(40, 1), 0);
        due.is("z as it was", x.seed(1), 1);
        due.is("of 0, when it is over", x.often(0, 0), -1);
        due.is("no dance", new LampThatFollows().often(1, 0), 1);
    }
}
