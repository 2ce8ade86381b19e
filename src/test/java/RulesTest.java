/** Promises 11 and 12: the tape, the rules. */
public final class RulesTest {
    private static final Due due = new Due("RulesTest");

    public static void main(String[] args) {
        feeds();
        faults();
        deeds();
        kinds();
        conditions();
        conditionsAnew();
        facts();
        faultsKeepTheRules();
        due.end();
    }

    private static void feeds() {
        LampThatFollows x = new LampThatFollows();
        due.is("feed 0", x.feed(1, 0), -1);
        due.is("feed 9", x.feed(1, 9), -1);
        due.is("feed -1", x.feed(1, -1), -1);
        due.is("feed 3", x.feed(0x646c6fL, 3), 3);
        due.is("feed", Due.feed(x, " wait;"), 9);
        due.is("lowest first", x.rules(), 1);
        due.is("used up", x.many(5), 0);
        for (int i = 1; i <= 24; i++) due.is("feed 8", x.feed(0x2020202020202020L, 8), 8 * i);
        due.is("feed 7", x.feed(0x2020202020202020L, 7), 199);
        due.is("feed 2 more than it takes", x.feed(0x2020L, 2), -2);
        due.is("feed, bad and full", x.feed(0x2020L, 9), -1);
        due.is("nothing came", x.many(5), 199);
        due.is("feed the last one", x.feed(0x3bL, 1), 200);
        due.is("feed one more", x.feed(0x20L, 1), -2);
        due.is("fault in the last byte", x.rules(), -299);
        Due.feed(x, " ".repeat(200));
        due.is("blanks alone", x.rules(), 0);
        due.is("bytes above the n count nothing", x.feed(0x3b74696177646c6fL, 3), 3);
        due.is("old alone", x.rules(), -103);
    }

    private static void fault(String text, int place) {
        LampThatFollows x = new LampThatFollows();
        due.is("fault of «" + text + "»", Due.rules(x, text), -100 - place);
        due.is("used up", x.many(5), 0);
        due.is("no rules", x.many(1), 0);
    }

    private static void right(String text, int many) {
        LampThatFollows x = new LampThatFollows();
        due.is("rules of «" + text + "»", Due.rules(x, text), many);
        due.is("many rules", x.many(1), many);
        due.is("used up", x.many(5), 0);
    }

    private static void faults() {
        right("", 0);
        right("hand wait;", 1);
        right("  hand   wait  ;  ", 1);
        right("hand lead 0;steady lag 99;quick lead 0099;", 3);
        right("hand if 1<2wait;", 1);
        right("hand lead5;", 1);
        right("hand if(1<2)wait;", 1);
        right("hand if not not(1=1)and((2>1)or 0=9999)wait;", 1);
        right("hand if (((1=1))) or (((1=1))) wait;", 1);
        right("hand if beat<place and aim=size or number>0 lag 1;", 1);
        right("hand wait;".repeat(8), 8);
        fault("hand wait;".repeat(8) + "hand wait;", 80);
        fault("hand wait;".repeat(8) + " foo", 81);
        fault("hand wait;".repeat(8) + ";", 80);
        fault("hand", 4);
        fault("hand  ", 6);
        fault("hand wait", 9);
        fault("hand wait  ", 11);
        fault("handwait;", 0);
        fault("land wait;", 0);
        fault("hank wait;", 0);
        fault("han wait;", 0);
        fault(";".repeat(200), 0);
        fault(" ".repeat(194) + "hand 9", 199);
        fault(" ".repeat(190) + "hand lag 9", 200);
        fault("Hand wait;", 0);
        fault(" ;", 1);
        fault("hand wait;;", 10);
        fault("hand\twait;", 4);
        fault("hand wait 1;", 10);
        fault("hand waits;", 5);
        fault("hand lead;", 9);
        fault("hand lead", 9);
        fault("hand lead 5", 11);
        fault("hand lead 100;", 10);
        fault("hand lead 0100;", 10);
        fault("hand lag 00001;", 9);
        fault("hand lead x;", 10);
        fault("hand lead beat;", 10);
        fault("hand lead -1;", 10);
        fault("hand if wait;", 8);
        fault("hand if", 7);
        fault("hand if 1 wait;", 10);
        fault("hand if 1 <", 11);
        fault("hand if 1 < wait;", 12);
        fault("hand if 1 < 2;", 13);
        fault("hand if 1 < 2 3 wait;", 14);
        fault("hand if 1 < 2 < 3 wait;", 14);
        fault("hand if 10000 < 2 wait;", 8);
        fault("hand if 2 < 10000 wait;", 12);
        fault("hand if 1 < 2 and wait;", 18);
        fault("hand if 1 < 2 or or 1 < 2 wait;", 17);
        fault("hand if 1 < 2 or wait;", 17);
        fault("hand if 1 < 2 or lead 5;", 17);
        fault("hand if 1 < 2 not 1 < 2 wait;", 14);
        fault("hand if not wait;", 12);
        fault("hand if (1 < 2 wait;", 15);
        fault("hand if 1 < 2) wait;", 13);
        fault("hand if () wait;", 9);
        fault("hand if (1) < 2 wait;", 10);
        fault("hand if 1 < (2) wait;", 12);
        fault("hand if ((((1=1)))) wait;", 11);
        fault("hand if (((not(1=1)))) wait;", 14);
        fault("hand if place = hand wait;", 16);
        fault("hand if beat == 1 wait;", 14);
        fault("if wait;", 0);
        fault("12 wait;", 0);
        fault("hand if 1=1 and lead 5;", 16);
        fault("hand wait;\u00e9", 10);
        fault("hand wait;\u0000", 10);
        fault("hand\u00ff", 4);
        fault("hand if 1=1 if 1=1 wait;", 12);
        fault("x".repeat(200), 0);
        right("hand if " + "not ".repeat(40) + "1=1 wait;", 1);
    }

    private static final int[] DANCE = {10, 12, 15, 21, 9};

    private static LampThatFollows ruled(String text, int beat) {
        LampThatFollows x = Due.dancing(DANCE);
        for (int kind = 1; kind <= 5; kind++) x.lamp(kind, 20, kind, 1);
        for (int b = 0; b < beat; b++) x.beat();
        for (int l = 0; l < 5; l++) x.change(l, 1, 20 + l);
        due.is("rules of «" + text + "»", Due.rules(x, text), text.length() - text.replace(";", "").length());
        return x;
    }

    private static void goals(String text, int beat, int... want) {
        LampThatFollows x = ruled(text, beat);
        for (int l = 0; l < 5; l++) {
            due.is("goal of " + l + " by «" + text + "» ahead of beat " + beat, x.lampOf(l, 4), want[l]);
        }
    }

    private static void same(String text, int beat, int want) {
        goals(text, beat, want, want, want, want, want);
    }

    private static void deeds() {
        same("hand lead 0;", 0, 10);
        same("hand lead 1;", 0, 12);
        same("hand lead 4;", 0, 9);
        same("hand lead 99;", 0, 9);
        same("hand lag 1;", 0, 10);
        same("hand lead 1;", 1, 12);
        same("hand lead 2;", 1, 15);
        same("hand lead 1;", 3, 21);
        same("hand lag 1;", 3, 12);
        same("hand lag 2;", 3, 10);
        same("hand lag 99;", 3, 10);
        same("hand lag 1;", 5, 21);
        same("hand lead 1;", 5, 9);
        same("hand wait;", 2, 41);
        LampThatFollows x = ruled("hand wait;", 1);
        for (int l = 0; l < 5; l++) due.is("it stays as it is", x.lampOf(l, 5), 20 + l);
        x.beat();
        for (int l = 0; l < 5; l++) due.is("it stayed as it was", x.lampOf(l, 1), 20 + l);
        LampThatFollows y = ruled("hand lead 2;", 1);
        due.is("goes for what leads", y.lampOf(0, 5), 19);
    }

    private static void kinds() {
        goals("steady wait;", 0, 41, 10, 10, 10, 10);
        goals("quick wait;", 0, 10, 41, 41, 10, 10);
        goals("nervous wait;", 0, 10, 10, 41, 10, 10);
        goals("old wait;", 0, 10, 10, 10, 41, 41);
        goals("tired wait;", 0, 10, 10, 10, 10, 41);
        goals("nervous lead 1;quick lead 2;hand wait;", 0, 41, 15, 12, 41, 41);
        goals("quick lead 2;nervous lead 1;", 0, 10, 15, 15, 10, 10);
        goals("old if 1=2 wait;tired lead 1;old lead 2;", 0, 10, 10, 10, 15, 12);
        LampThatFollows x = ruled("old wait;", 0);
        x.remake(0, 5);
        due.is("a remade lamp is led by its new kind", x.lampOf(0, 4), 41);
    }

    private static void holds(String cond) {
        same("hand if " + cond + " lead 1;", 0, 12);
        same("hand if not(" + cond + ") lead 1;", 0, 10);
    }

    private static void fails(String cond) {
        same("hand if " + cond + " lead 1;", 0, 10);
        same("hand if not(" + cond + ") lead 1;", 0, 12);
    }

    private static void conditions() {
        holds("1<2");
        fails("2<2");
        fails("3<2");
        holds("2=2");
        fails("1=2");
        fails("2=1");
        holds("2>1");
        fails("2>2");
        fails("1>2");
        holds("1=1 or 1=1 and 1=2");
        holds("1=2 and 1=2 or 1=1");
        fails("(1=1 or 1=1) and 1=2");
        fails("1=2 and (1=2 or 1=1)");
        fails("not 1=1 or 1=2");
        holds("not 1=2 and 1=1");
        fails("not 1=2 and 1=2");
        holds("not not 1=1");
        fails("not not not 1=1");
        holds("not (1=1 and 1=2)");
        holds("9999>9998");
        holds("0007=7");
        fails("1=2 or 2=3 or 3=4");
        holds("1=2 or 2=3 or 4=4");
        fails("1=1 and 2=2 and 3=4");
        holds("(1=2 or (1=1 and 2=2)) and not (3=4)");
    }

    private static void conditionsAnew() {
        LampThatFollows x = ruled("hand if 1=1 wait;old if 1=1 and 1=2 or 2=2 lead 1;", 0);
        due.is("the first rule holds", x.lampOf(3, 4), 41);
        Due.rules(x, "hand if 1=2 wait;old if 1=1 lead 1;");
        due.is("the second rule holds", x.lampOf(3, 4), 12);
        Due.rules(x, "hand if 1=2 and");
        Due.rules(x, "hand if 2=1 or 3=1 wait;old lead 2;");
        due.is("the second rule holds", x.lampOf(3, 4), 15);
    }

    private static void facts() {
        same("hand if beat = 0 lead 1;", 0, 12);
        same("hand if beat = 2 lead 1;", 2, 15);
        same("hand if beat = 2 lead 1;", 3, 15);
        same("hand if beat = 5 wait;", 5, 41);
        same("hand if place = 10 wait;", 0, 41);
        same("hand if place = 10 wait;", 1, 41);
        same("hand if place = 12 wait;", 2, 41);
        same("hand if place = 12 wait;", 1, 10);
        goals("hand if aim = 22 wait;", 0, 10, 10, 41, 10, 10);
        goals("hand if size > 3 wait;", 0, 10, 10, 10, 41, 41);
        goals("hand if number = 0 wait;", 0, 41, 10, 10, 10, 10);
        goals("hand if number < 2 wait;", 0, 41, 41, 10, 10, 10);
        goals("hand if aim > 20 and number < 4 wait;", 0, 10, 41, 41, 41, 10);
        goals("hand if place < aim and size = number wait;", 0, 10, 10, 10, 10, 10);
    }

    private static void faultsKeepTheRules() {
        LampThatFollows x = ruled("hand wait;old lead 1;", 0);
        due.is("a fault", Due.rules(x, "hand lead 1;old"), -115);
        due.is("many rules as before", x.many(1), 2);
        due.is("the goal as before", x.lampOf(0, 4), 41);
        due.is("other rules", Due.rules(x, "old lead 1;"), 1);
        due.is("in place of all", x.lampOf(0, 4), 10);
        due.is("in place of all", x.lampOf(3, 4), 12);
        due.is("no rules", x.rules(), 0);
        due.is("in place of all", x.lampOf(3, 4), 10);
    }
}
