/** Where the document leaves a choice: what was chosen (NOTES.md lists it), so that it does not change unseen. */
public final class ChoicesTest {
    private static final Due due = new Due("ChoicesTest");

    public static void main(String[] args) {
        seenWithoutBeatsIs0();
        theSameIsAnotherOne();
        noBlankIsNeededBetweenNamesAndNumbers();
        theShelfKeepsItsRow();
        noItemsOfAMissingSheet();
        outsideAlsoWhenItIsOver();
        theTraceOfAnActPartedBy0();
        sheSlipsAheadOfTheLamps();
        due.end();
    }

    private static void seenWithoutBeatsIs0() {
        LampThatFollows x = new LampThatFollows();
        x.lamp(1, 0, 0, 1);
        x.lamp(2, 5, 4, 1);
        x.lamp(3, 9, 1, 1);
        for (String deed : new String[] {"", "hand lead 99;", "hand lag 99;"}) {
            Due.rules(x, deed);
            due.is("goal by " + deed, x.lampOf(1, 4), 0);
            due.is("in", x.in(2), 1);
            due.is("at the rim", x.in(1), 2);
            due.is("out", x.in(0), 4);
        }
        due.is("the fact", Due.rules(x, "hand if place = 0 wait;"), 1);
        due.is("the fact", x.lampOf(0, 4), 41);
    }

    private static void theSameIsAnotherOne() {
        LampThatFollows x = Due.dancing(7);
        x.lamp(4, 1, 1, 1);
        due.is("remake", x.remake(0, 4), 4);
        due.is("steps", x.steps(0, 7), 7);
    }

    private static void noBlankIsNeededBetweenNamesAndNumbers() {
        LampThatFollows x = Due.dancing(7, 9);
        x.lamp(4, 1, 1, 1);
        due.is("rules", Due.rules(x, "hand if 1=1and 2=2lead1;"), 1);
        due.is("goal", x.lampOf(0, 4), 9);
        due.is("two names have no end between them", Due.rules(x, "handwait;"), -100);
    }

    private static void theShelfKeepsItsRow() {
        LampThatFollows x = new LampThatFollows();
        x.sheet(2, 3, 17);
        x.shelf(1, 1, 2);
        x.sheet(2, 0, 5);
        due.is("the row that it got", x.taken(1, 13), 17);
        x.sheet(2, -1, 0);
        due.is("the row that it got", x.taken(1, 13), 17);
    }

    private static void noItemsOfAMissingSheet() {
        LampThatFollows x = Due.dancing(7);
        due.is("goAll", x.goAll(0, 0, 0), -11);
        due.is("wouldBe", x.wouldBe(0, 0, 0), -11);
    }

    private static void outsideAlsoWhenItIsOver() {
        LampThatFollows x = new LampThatFollows();
        x.sheet(0, 0, 2);
        due.is("goAll", x.goAll(0, 1, 2), -12);
        due.is("goAll inside", x.goAll(0, 0, 2), 0);
    }

    private static void theTraceOfAnActPartedBy0() {
        LampThatFollows x = new LampThatFollows();
        x.lamp(5, 0, 0, 1);
        x.shelf(0, 0, 0);
        due.is("act", x.act(0, 2, 9), -15);
        due.is("bodies", x.many(6), 3);
        int[] bodies = {61, 40, 12};
        for (int i = 0; i < 3; i++) due.is("body", x.trace(i), bodies[i]);
    }

    private static void sheSlipsAheadOfTheLamps() {
        LampThatFollows x = Due.dancing(20, 20);
        x.lamp(1, 20, 0, 9);
        due.is("seed", x.seed(1), 1);
        // (1103527590 >>> 16) % 5 is 3, so she slips by 1, and the lamp goes with her
        due.is("lot", x.lot(), 10);
        due.is("aim", x.lampOf(0, 1), 21);
        Due.rules(x, "hand lead 1;");
        x.steps(1, 25);
        x.seed(1);
        due.is("lot by lead", x.lot(), 10);
        due.is("aim", x.lampOf(0, 1), 26);
        due.is("place", x.danceOf(1), 26);
    }
}
