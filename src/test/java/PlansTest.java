/** Promises 23 to 27 and 35 to 38: plans, the game, rows and who reads them. */
public final class PlansTest {
    private static final Due due = new Due("PlansTest");

    public static void main(String[] args) {
        oneLamp();
        twoLamps();
        plays();
        over();
        games();
        rows();
        altered();
        readFromHowItIsNow();
        due.end();
    }

    /** The lamp is on her at first; when she is back again it should not have gone. */
    private static LampThatFollows there() {
        LampThatFollows x = Due.dancing(10, 20, 10, 10, 10, 10);
        x.lamp(1, 10, 0, 5);
        return x;
    }

    private static void oneLamp() {
        LampThatFollows x = there();
        due.is("best 0", x.best(0), 0);
        due.is("best 1", x.best(1), 10);
        due.is("best 2", x.best(2), 10);
        // held at beat 2, at which it would go for 20
        due.is("best 3", x.best(3), 20);
        due.is("best 4", x.best(4), 30);
        due.is("best 5", x.best(5), -1);
        due.is("best -1", x.best(-1), -1);
        int[] acts = {0, 0, 1, 0};
        for (int i = 0; i < 4; i++) due.is("ith(4, " + i + ")", x.ith(4, i), acts[i]);
        due.is("ith(4, 4)", x.ith(4, 4), -1);
        due.is("ith(4, -1)", x.ith(4, -1), -1);
        due.is("ith(5, 0)", x.ith(5, 0), -1);
        due.is("ith(-1, 0)", x.ith(-1, 0), -1);
        due.is("ith(5, 4)", x.ith(5, 4), -1);
        due.is("ith(3, 3)", x.ith(3, 3), -3);
        due.is("ith(3, 2)", x.ith(3, 2), 1);
        due.is("ith(0, 0)", x.ith(0, 0), -3);
        int[] ways = {1, 2, 4, 4, 8};
        for (int n = 0; n <= 4; n++) due.is("ways " + n, x.ways(n), ways[n]);
        due.is("ways 5", x.ways(5), -1);
        due.is("ways -1", x.ways(-1), -1);
        due.is("nothing went by", x.state(0), 0);
        due.is("no score", x.state(2), 0);
        due.is("its aim", x.lampOf(0, 1), 10);
    }

    private static void twoLamps() {
        LampThatFollows x = Due.dancing(10, 20, 10);
        x.lamp(1, 10, 1, 9);
        x.lamp(1, 19, 1, 9);
        // lamp 1 at 19 is in at beat 1 if it is held ahead of 0 and 1
        due.is("best 1", x.best(1), 9 + 9);
        due.is("best 2", x.best(2), 9 + 9);
        due.is("first", x.ith(2, 0), 0);
        due.is("first", x.ith(2, 1), 0);
        // without holding 0: 18; holding 1, then 1: 9 + 9
        due.is("ways of 2", x.ways(2), 7);
        due.is("best 3", x.best(3), 18 + 9);
        due.is("first of 3", x.ith(3, 2), 1);
        due.is("seven plans of 2 less two lamps in 3", x.ways(3), 14 - 1);
    }

    private static void over() {
        LampThatFollows x = there();
        for (int b = 0; b < 4; b++) x.beat();
        due.is("two beats yet", x.best(4), 20);
        due.is("its second act", x.ith(4, 1), 0);
        due.is("no third act", x.ith(4, 2), -3);
        x.beat();
        x.beat();
        due.is("best when it is over", x.best(4), 0);
        due.is("ith when it is over", x.ith(4, 0), -3);
        due.is("ways when it is over", x.ways(4), 1);
        due.is("ways of no dance", new LampThatFollows().ways(3), 1);
        LampThatFollows y = Due.dancing(1, 2);
        due.is("without lamps one plan", y.ways(2), 1);
        due.is("without lamps its act", y.ith(2, 1), 0);
        due.is("without lamps it is worth 0", y.best(2), 0);
    }

    private static void games() {
        LampThatFollows x = Due.dancing(10, 20, 20, 20);
        x.lamp(1, 20, 0, 9);
        // it goes to 11, and has her at the rim; ahead of 1 it may do nothing that has her then
        due.is("game 1", x.game(1), 1);
        due.is("play 1, the least act", x.play(1), 0);
        due.is("game 2", x.game(2), 1);
        due.is("game 0", x.game(0), -1);
        due.is("game 5", x.game(5), -1);
        due.is("play 0", x.play(0), -1);
        due.is("play 5", x.play(5), -1);
        x.beat();
        x.change(0, 1, 20);
        // the first one holds it at 20: 10, then the other one wants it gone, but she is seen at 20
        due.is("game 1", x.game(1), 10);
        due.is("play 1", x.play(1), 1);
        due.is("game 2", x.game(2), 20);
        due.is("play 2", x.play(2), 1);
        due.is("game 3", x.game(3), 30);
        due.is("game 4, as many as there are", x.game(4), 30);
        x.change(0, 1, 18);
        // held it stays at 18, the other one holds it, too, then it goes to 20; else it goes to 10, 10, 19
        due.is("the other one holds it", x.game(3), 0 + 0 + 10);
        due.is("the first one's act", x.play(3), 1);
        for (int b = 0; b < 3; b++) x.beat();
        due.is("game when it is over", x.game(1), 0);
        due.is("play when it is over", x.play(1), -3);
        due.is("play of 0 when it is over", x.play(0), -1);
    }

    private static void plays() {
        LampThatFollows x = Due.dancing(10, 30, 30, 30);
        x.lamp(1, 20, 0, 1);
        x.lamp(1, 20, 9, 1);
        // lamp 1 is worth 1 if it goes to 19, and worth 1 if it is held at 20: she is in, or at the rim
        due.is("play, of several the least", x.play(1), 0);
        x.beat();
        // now she comes to 30, at the rim of lamp 1 if that is held at 20
        x.change(0, 1, 10);
        x.change(1, 1, 20);
        due.is("play of 2", x.play(2), 2);
        due.is("play of 1", x.play(1), 2);
        x.change(1, 1, 0);
        due.is("play, of several the least", x.play(2), 0);
        due.is("play of none", new LampThatFollows().play(1), -3);
        LampThatFollows y = Due.dancing(5, 6);
        due.is("play without lamps", y.play(2), 0);
        due.is("game without lamps", y.game(2), 0);
    }

    private static void rows() {
        LampThatFollows x = there();
        due.is("prove 5", x.prove(5), -1);
        due.is("prove -1", x.prove(-1), -1);
        due.is("no rows", x.many(4), 0);
        due.is("judge of none", x.judge(), 0);
        due.is("prove 4", x.prove(4), 4);
        due.is("many rows", x.many(4), 4);
        int[][] want = {{0, 10, 1}, {0, 0, 0}, {1, 10, 1}, {0, 10, 1}};
        for (int k = 0; k < 4; k++) {
            for (int what = 0; what < 3; what++) {
                due.is("row(" + k + ", " + what + ")", x.row(k, what), want[k][what]);
            }
        }
        due.is("row 4", x.row(4, 0), -9);
        due.is("row -1", x.row(-1, 0), -9);
        due.is("row of what 3", x.row(0, 3), -9);
        due.is("row of what -1", x.row(0, -1), -9);
        due.is("judge", x.judge(), 0);
        due.is("nothing went by", x.state(0), 0);
        due.is("prove 5 again", x.prove(5), -1);
        due.is("rows stay", x.many(4), 4);
        due.is("prove 1", x.prove(1), 1);
        due.is("row 1", x.row(1, 0), -9);
        due.is("prove 0", x.prove(0), 0);
        due.is("row 0", x.row(0, 0), -9);
        LampThatFollows y = Due.dancing(10, 12);
        y.lamp(1, 9, 0, 9);
        y.lamp(1, 12, 2, 9);
        y.lamp(1, 10, 3, 9);
        due.is("prove, fewer beats", y.prove(4), 2);
        due.is("the rim is not in", y.row(1, 2), 0b110);
        due.is("but worth 1", y.row(1, 1), y.best(2) - y.row(0, 1));
    }

    private static void altered() {
        LampThatFollows x = there();
        x.prove(4);
        due.is("alterRow of none", x.alterRow(4, 0, 1), -9);
        due.is("alterRow of none", x.alterRow(-1, 0, 1), -9);
        due.is("alterRow of what 3", x.alterRow(0, 3, 1), -9);
        due.is("alterRow of what -1", x.alterRow(0, -1, 1), -9);
        due.is("judge", x.judge(), 0);
        due.is("alter an act that does not matter", x.alterRow(3, 0, 1), 0);
        due.is("another plan is right, too", x.judge(), 0);
        due.is("altered", x.row(3, 0), 1);
        due.is("alter to no act", x.alterRow(3, 0, 2), 1);
        due.is("wrong", x.judge(), 4);
        due.is("alter to no act", x.alterRow(3, 0, -1), 2);
        due.is("wrong", x.judge(), 4);
        due.is("alter to no act", x.alterRow(3, 0, Integer.MIN_VALUE), -1);
        due.is("wrong", x.judge(), 4);
        x.alterRow(3, 0, 0);
        due.is("right again", x.judge(), 0);
        due.is("alter a worth", x.alterRow(1, 1, -7), 0);
        due.is("wrong", x.judge(), 2);
        due.is("altered worth", x.row(1, 1), -7);
        x.alterRow(1, 1, 0);
        due.is("alter a set", x.alterRow(2, 2, 3), 1);
        due.is("wrong", x.judge(), 3);
        x.alterRow(2, 2, 1);
        due.is("right again", x.judge(), 0);
        // not held at beat 2 it goes for 20, and she is not in its circle
        due.is("alter an act that matters", x.alterRow(2, 0, 0), 1);
        due.is("its row is wrong", x.judge(), 3);
        x.alterRow(0, 0, 2);
        due.is("the first wrong one", x.judge(), 1);
    }

    private static void readFromHowItIsNow() {
        LampThatFollows x = there();
        x.prove(4);
        x.change(0, 1, 11);
        due.is("it goes back to her", x.judge(), 0);
        x.change(0, 1, 16);
        due.is("it can't be there", x.judge(), 1);
        x.change(0, 1, 10);
        x.lamp(1, 0, 0, 1);
        due.is("another lamp, always out", x.judge(), 0);
        x.beat();
        due.is("a beat later", x.judge(), 1);
        x.anew();
        due.is("anew", x.judge(), 0);
        LampThatFollows y = Due.dancing(10, 10, 10);
        y.lamp(1, 10, 0, 9);
        y.prove(3);
        y.beat();
        due.is("over ahead of the third row", y.judge(), 3);
        y.beat();
        y.beat();
        due.is("over ahead of the first row", y.judge(), 1);
        y.prove(2);
        due.is("no rows when it is over", y.many(4), 0);
        due.is("nothing is wrong", y.judge(), 0);
    }
}
