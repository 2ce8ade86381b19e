/** Promises 28 to 34: reports of walks in the dark, beats by lot. */
public final class DarkTest {
    private static final Due due = new Due("DarkTest");

    public static void main(String[] args) {
        reports();
        walks();
        sightsInTheDark();
        liars();
        seeds();
        lots();
        heldPlaces();
        oftens();
        due.end();
    }

    private static void reports() {
        LampThatFollows x = new LampThatFollows();
        int[][] wrong = {{-1, 1, 1, 1}, {16, 1, 1, 1}, {1, -1, 1, 1}, {1, 41, 1, 1}, {1, 1, -1, 1}, {1, 1, 10, 1},
            {1, 1, 1, -1}, {1, 1, 1, 3}};
        for (int[] w : wrong) due.is("report as none is", x.report(w[0], w[1], w[2], w[3]), -1);
        due.is("no reports", x.many(3), 0);
        due.is("forget none", x.forget(), 0);
        due.is("report", x.report(0, 0, 0, 0), 0);
        due.is("report", x.report(15, 40, 9, 2), 1);
        for (int r = 2; r < 6; r++) due.is("report", x.report(r, r, r, 1), r);
        due.is("report, full", x.report(1, 1, 1, 1), -2);
        due.is("report, bad and full", x.report(1, 1, 1, 3), -1);
        due.is("many reports", x.many(3), 6);
        due.is("forget", x.forget(), 6);
        due.is("many reports", x.many(3), 0);
        due.is("walks without reports", x.span(0), 205);
        due.is("report anew", x.report(1, 1, 1, 1), 0);
    }

    private static void walks() {
        LampThatFollows x = new LampThatFollows();
        due.is("span -1", x.span(-1), -1);
        due.is("span 3", x.span(3), -1);
        due.is("all walks", x.span(0), 205);
        due.is("least start", x.span(1), 0);
        due.is("least pace", x.span(2), 0);
        x.report(10, 20, 0, 2);
        // start 0 pace 2, 10 and 1, 20 and 0, 30 and -1, 40 and -2
        due.is("walks", x.span(0), 5);
        due.is("start", x.span(1), 0);
        due.is("pace", x.span(2), 4);
        x.report(0, 35, 9, 2);
        due.is("walks", x.span(0), 2);
        due.is("start", x.span(1), 30);
        due.is("pace", x.span(2), 1);
        x.report(0, 30, 0, 0);
        due.is("walks", x.span(0), 1);
        due.is("start", x.span(1), 40);
        due.is("pace", x.span(2), 0);
        x.report(1, 40, 0, 2);
        due.is("no walk", x.span(0), 0);
        due.is("no start", x.span(1), -3);
        due.is("no pace", x.span(2), -3);
        due.is("span 3 of none", x.span(3), -1);
        x.forget();
        x.report(15, 40, 0, 2);
        // pace 2: 10 to 40, held; pace 1: 25 to 40; pace 0: 40
        due.is("held walks", x.span(0), 31 + 16 + 1);
        due.is("start", x.span(1), 10);
        due.is("pace", x.span(2), 4);
        x.forget();
        x.report(15, 0, 0, 2);
        due.is("held walks", x.span(0), 31 + 16 + 1);
        due.is("start", x.span(1), 0);
        due.is("pace", x.span(2), 0);
        x.report(0, 16, 0, 2);
        due.is("of one start", x.span(2), 0);
        due.is("of one start", x.span(1), 16);
        due.is("of one start", x.span(0), 1);
    }

    private static void sightsInTheDark() {
        LampThatFollows x = new LampThatFollows();
        x.report(0, 20, 3, 2);
        due.is("in", x.span(0), 7 * 5);
        due.is("in, least", x.span(1), 17);
        x.forget();
        x.report(0, 20, 3, 1);
        due.is("rim", x.span(0), 2 * 5);
        due.is("rim, least", x.span(1), 16);
        x.forget();
        x.report(0, 20, 3, 0);
        due.is("out", x.span(0), 32 * 5);
        due.is("out, least", x.span(1), 0);
        x.report(0, 5, 9, 0);
        due.is("out of both, least", x.span(1), 25);
    }

    private static void liars() {
        LampThatFollows x = new LampThatFollows();
        due.is("liar of none", x.liar(), -3);
        x.report(0, 10, 0, 2);
        due.is("some fit", x.liar(), -3);
        x.report(0, 12, 0, 2);
        due.is("either, the least", x.liar(), 0);
        x.report(1, 14, 0, 2);
        due.is("but for the first one", x.liar(), 0);
        x.report(2, 16, 0, 2);
        due.is("but for the first one", x.liar(), 0);
        x.forget();
        x.report(1, 14, 0, 2);
        x.report(2, 16, 0, 2);
        x.report(0, 12, 0, 2);
        due.is("some fit", x.liar(), -3);
        x.report(0, 10, 0, 2);
        due.is("the last one", x.liar(), 3);
        x.report(0, 11, 0, 2);
        due.is("more than one", x.liar(), -3);
        due.is("reports stay", x.many(3), 5);
    }

    private static void seeds() {
        LampThatFollows x = new LampThatFollows();
        due.is("seed", x.seed(Integer.MIN_VALUE), 1);
        due.is("seed", x.seed(-5), Integer.MIN_VALUE);
        due.is("seed", x.seed(0), -5);
        due.is("seed", x.seed(7), 0);
    }

    private static int next(int z) {
        return (int) (z * 1103515245L + 12345L);
    }

    private static int slip(int z) {
        return (int) ((z & 0xffffffffL) / 65536 % 5) - 2;
    }

    private static void lots() {
        LampThatFollows x = new LampThatFollows();
        due.is("lot of no dance", x.lot(), -4);
        due.is("z stays", x.seed(1), 1);
        int[] places = {20, 20, 20, 20, 20, 20, 20, 20};
        for (int place : places) x.dance(place);
        x.lamp(1, 20, 9, 9);
        // 1103527590 is 16838 times 65536 and more: 3 at 5, so 1 more
        due.is("lot", x.lot(), 1);
        due.is("slipped", x.danceOf(0), 21);
        due.is("z went on", x.seed(1103527590), 1103527590);
        due.is("it went for where she slipped to", x.lampOf(0, 1), 21);
        due.is("beat", x.state(0), 1);
        due.is("score", x.state(2), 1);
        int z = 1103527590;
        for (int b = 1; b < 8; b++) {
            z = next(z);
            int aim = x.danceOf(b - 1);
            due.is("lot", x.lot(), Math.abs(20 + slip(z) - aim) <= 9 ? 1 : 0);
            due.is("slipped", x.danceOf(b), 20 + slip(z));
            due.is("it went for where she was", x.lampOf(0, 1), aim);
        }
        due.is("lot when it is over", x.lot(), -4);
        due.is("z stays", x.seed(0), z);
        due.is("score", x.state(2), 8);
        x.anew();
        x.seed(-1);
        x.lot();
        due.is("slips add up", x.danceOf(0), 21 + slip(next(-1)));
    }

    private static void heldPlaces() {
        for (int z = -20; z < 20; z++) {
            LampThatFollows x = Due.dancing(0, 40);
            x.seed(z);
            x.lot();
            x.lot();
            int first = slip(next(z));
            int second = slip(next(next(z)));
            due.is("held to 0", x.danceOf(0), Math.max(0, first));
            due.is("held to 40", x.danceOf(1), Math.min(40, 40 + second));
        }
    }

    private static void oftens() {
        LampThatFollows x = Due.dancing(20, 20);
        x.lamp(1, 20, 0, 1);
        due.is("often 0", x.often(0, 1), -1);
        due.is("often 41", x.often(41, 1), -1);
        due.is("often of -1", x.often(1, -1), -1);
        due.is("often of 1000", x.often(1, 1000), -1);
        due.is("often of 0", x.often(40, 0), 40);
        due.is("often of 999", x.often(40, 999), 0);
        for (int v = 0; v <= 21; v++) {
            for (int n = 1; n <= 40; n += 13) {
                int times = 0;
                int z = 1;
                for (int i = 0; i < n; i++) {
                    z = next(z);
                    int first = slip(z);
                    z = next(z);
                    int second = slip(z);
                    // it goes 1 for where she slips to, then 1 more
                    int one = Integer.signum(first);
                    int off = Math.abs(first - one);
                    int two = one + Integer.signum(first - one);
                    int off2 = Math.abs(second - two);
                    int worth = (off == 0 ? 10 : off == 1 ? 1 : 0) + (off2 == 0 ? 10 : off2 == 1 ? 1 : 0);
                    if (worth >= v) times++;
                }
                due.is("often(" + n + ", " + v + ")", x.often(n, v), times);
            }
        }
        due.is("z as it was", x.seed(1), 1);
        due.is("beat as it was", x.state(0), 0);
        due.is("score as it was", x.state(2), 0);
        due.is("place as it was", x.danceOf(0), 20);
        due.is("aim as it was", x.lampOf(0, 1), 20);
        x.beat();
        x.beat();
        due.is("often when it is over", x.often(7, 0), 7);
        due.is("often when it is over", x.often(7, 1), 0);
    }
}
