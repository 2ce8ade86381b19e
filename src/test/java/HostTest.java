/** Promises 39 to 48: sheets, shelves, acts, the trace, how many. */
public final class HostTest {
    private static final Due due = new Due("HostTest");

    public static void main(String[] args) {
        sheets();
        writes();
        items();
        goesAll();
        wouldBes();
        shelves();
        lampsThatGo();
        acts();
        noActs();
        partedBy0();
        manies();
        due.end();
    }

    private static void sheets() {
        LampThatFollows x = new LampThatFollows();
        due.is("no such sheet", x.sheet(4, 0, 1), -1);
        due.is("no such sheet", x.sheet(-1, 0, 1), -1);
        due.is("no such sort", x.sheet(0, 5, 1), -1);
        due.is("no such sort", x.sheet(0, -2, 1), -1);
        due.is("too many", x.sheet(0, 0, 41), -1);
        due.is("below 0", x.sheet(0, 0, -1), -14);
        due.is("below 0 of no sort", x.sheet(0, 5, -1), -1);
        due.is("nothing changed", x.item(0, 0, 0), -11);
        for (int sort = 0; sort < 5; sort++) {
            due.is("sheet", x.sheet(3, sort, 40), 1);
            due.is("all 0", x.item(3, sort, 0), 0);
            due.is("all 0", x.item(3, sort, 39), 0);
            due.is("write", x.write(3, 0, 1), 1);
            due.is("write", x.write(3, 39, 1), 1);
            due.is("no more", x.item(3, sort, 40), -12);
        }
        due.is("sheet of none", x.sheet(3, 0, 0), 1);
        due.is("no item", x.item(3, 0, 0), -12);
        due.is("missing", x.sheet(3, -1, 99), 1);
        due.is("missing", x.item(3, 0, 0), -11);
        due.is("missing, n counts nothing", x.sheet(3, -1, -99), 1);
        x.sheet(2, 0, 3);
        x.write(2, 1, 9);
        due.is("refused", x.sheet(2, 1, -1), -14);
        due.is("as it was", x.item(2, 0, 1), 9);
        x.sheet(2, 0, 3);
        due.is("all 0 again", x.item(2, 0, 1), 0);
        due.is("the others are missing yet", x.item(1, 0, 0), -11);
    }

    private static void writes() {
        LampThatFollows x = new LampThatFollows();
        due.is("no such sheet", x.write(4, 0, 1), -1);
        due.is("no such sheet", x.write(-1, 0, 1), -1);
        due.is("missing", x.write(0, 0, 1), -11);
        due.is("missing and outside", x.write(0, -1, 1), -11);
        int[] values = {0, 1, -1, 127, 128, 255, 256, 32767, 32768, 65536, Integer.MAX_VALUE, Integer.MIN_VALUE};
        for (int v : values) {
            int[] want = {(byte) v, (short) v, v, v, v == 0 ? 0 : 1};
            for (int sort = 0; sort < 5; sort++) {
                x.sheet(1, sort, 3);
                due.is("write", x.write(1, 1, v), 1);
                due.is("narrowed " + v + " to sort " + sort, x.item(1, sort, 1), want[sort]);
                due.is("its neighbour", x.item(1, sort, 0), 0);
                due.is("its neighbour", x.item(1, sort, 2), 0);
            }
        }
        due.is("outside", x.write(1, 3, 1), -12);
        due.is("outside", x.write(1, -1, 1), -12);
        due.is("outside", x.write(1, Integer.MIN_VALUE, 1), -12);
        due.is("write over", x.write(1, 1, 0), 1);
        due.is("written over", x.item(1, 4, 1), 0);
    }

    private static void items() {
        LampThatFollows x = new LampThatFollows();
        due.is("no such sheet", x.item(4, 0, 0), -1);
        due.is("no such sheet", x.item(-1, 0, 0), -1);
        due.is("no such sort", x.item(0, 5, 0), -1);
        due.is("no such sort", x.item(0, -1, 0), -1);
        due.is("missing", x.item(0, 4, -1), -11);
        for (int sort = 0; sort < 5; sort++) {
            x.sheet(0, sort, 2);
            x.write(0, 0, 1);
            for (int as = 0; as < 5; as++) {
                due.is("item", x.item(0, as, 0), as == sort ? 1 : -13);
                due.is("outside, but first another sort", x.item(0, as, 2), as == sort ? -12 : -13);
                due.is("outside", x.item(0, as, -1), as == sort ? -12 : -13);
            }
        }
        x.sheet(0, 2, 1);
        x.write(0, 0, -11);
        due.is("an item as low as a refusal", x.item(0, 2, 0), -11);
    }

    private static LampThatFollows staged() {
        LampThatFollows x = Due.dancing(10, 20, 10, 10, 10);
        x.lamp(1, 10, 0, 5);
        x.sheet(0, 0, 6);
        return x;
    }

    private static void goesAll() {
        LampThatFollows x = staged();
        due.is("no such sheet", x.goAll(4, 0, 1), -1);
        due.is("no such sheet", x.goAll(-1, 0, 1), -1);
        due.is("n below 0", x.goAll(0, 0, -1), -1);
        due.is("n above 20", x.goAll(0, 0, 21), -1);
        due.is("missing", x.goAll(1, 0, 1), -11);
        for (int sort = 1; sort < 5; sort++) {
            x.sheet(1, sort, 6);
            due.is("another sort", x.goAll(1, 9, 1), -13);
        }
        due.is("nothing done", x.state(0), 0);
        due.is("none of them", x.goAll(0, 0, 0), 0);
        due.is("outside", x.goAll(0, 6, 1), -12);
        due.is("outside", x.goAll(0, -1, 2), -12);
        due.is("outside", x.goAll(0, Integer.MAX_VALUE, 20), -12);
        due.is("outside", x.goAll(0, Integer.MIN_VALUE, 20), -12);
        due.is("nothing done", x.state(0), 0);
        x.write(0, 1, 2);
        x.write(0, 2, -1);
        x.write(0, 4, 1);
        // 0 goes by for 10, 2 and -1 are no acts, 0 goes by for 0, 1 holds it at 10
        due.is("go all", x.goAll(0, 0, 5), 20);
        due.is("beats gone by", x.state(0), 3);
        due.is("score", x.state(2), 20);
        due.is("held", x.lampOf(0, 1), 10);
        due.is("from item 4 on", x.goAll(0, 4, 1), 10);
        due.is("what stood ahead was done", x.goAll(0, 5, 2), -12);
        due.is("beats gone by", x.state(0), 5);
        due.is("score", x.state(2), 40);
        due.is("left out when it is over", x.goAll(0, 0, 6), 0);
        due.is("outside, also when it is over", x.goAll(0, 0, 7), -12);
        due.is("no beat more", x.state(0), 5);
    }

    private static void wouldBes() {
        LampThatFollows x = staged();
        due.is("no such sheet", x.wouldBe(4, 0, 1), -1);
        due.is("no such sheet", x.wouldBe(-1, 0, 1), -1);
        due.is("n below 0", x.wouldBe(0, 0, -1), -1);
        due.is("n above 20", x.wouldBe(0, 0, 21), -1);
        due.is("missing", x.wouldBe(1, 0, 1), -11);
        for (int sort = 1; sort < 5; sort++) {
            x.sheet(1, sort, 6);
            due.is("another sort", x.wouldBe(1, 9, 1), -13);
        }
        due.is("none of them", x.wouldBe(0, 0, 0), 0);
        due.is("outside", x.wouldBe(0, -1, 1), -12);
        due.is("outside", x.wouldBe(0, 6, 1), -12);
        due.is("outside", x.wouldBe(0, Integer.MAX_VALUE, 2), -12);
        x.write(0, 2, 1);
        due.is("would be", x.wouldBe(0, 0, 5), 40);
        due.is("would be, held a beat too soon", x.wouldBe(0, 1, 3), 10 + 0 + 0);
        due.is("over ahead of the sixth", x.wouldBe(0, 0, 6), -4);
        due.is("over ahead of the sixth, then outside", x.wouldBe(0, 0, 7), -4);
        due.is("outside first", x.wouldBe(0, 3, 20), -12);
        x.write(0, 4, 2);
        due.is("no act", x.wouldBe(0, 0, 5), -4);
        due.is("no act, then outside", x.wouldBe(0, 4, 3), -4);
        x.write(0, 4, -1);
        due.is("no act", x.wouldBe(0, 4, 1), -4);
        due.is("nothing done", x.state(0), 0);
        due.is("no score", x.state(2), 0);
        due.is("its aim", x.lampOf(0, 1), 10);
        for (int b = 0; b < 5; b++) x.beat();
        due.is("over", x.wouldBe(0, 0, 1), -4);
        due.is("none of them when it is over", x.wouldBe(0, 0, 0), 0);
        due.is("outside when it is over", x.wouldBe(0, 6, 1), -12);
    }

    private static void shelves() {
        LampThatFollows x = new LampThatFollows();
        for (int kind = 1; kind <= 5; kind++) x.lamp(kind, 0, 0, 1);
        due.is("no such shelf", x.shelf(4, 0, 0), -1);
        due.is("no such shelf", x.shelf(-1, 0, 0), -1);
        due.is("no such what", x.shelf(0, 3, 0), -1);
        due.is("no such what", x.shelf(0, -1, 0), -1);
        due.is("no such lamp", x.shelf(0, 0, 5), -1);
        due.is("no such lamp", x.shelf(0, 0, -1), -1);
        due.is("no such sheet", x.shelf(0, 1, 4), -1);
        due.is("no such sheet", x.shelf(0, 1, -1), -1);
        due.is("nothing, n counts nothing", x.shelf(0, 2, 99), 1);
        int[] bad = {-1, 6, 7, 8, 9, 15, Integer.MIN_VALUE};
        for (int as : bad) due.is("taken as none is", x.taken(0, as), -1);
        due.is("no such shelf", x.taken(4, 0), -1);
        due.is("no such shelf", x.taken(-1, 0), -1);
        for (int as = 0; as <= 5; as++) due.is("nothing taken", x.taken(0, as), -11);
        for (int as = 10; as <= 14; as++) due.is("nothing taken", x.taken(0, as), -11);
        // under it: of the kinds 1 to 5 what they may be taken for
        String[] under = {"01", "02", "023", "04", "045"};
        for (int l = 0; l < 5; l++) {
            due.is("a lamp on a shelf", x.shelf(1, 0, l), 1);
            for (int as = 0; as <= 5; as++) {
                due.is("kind " + (l + 1) + " as " + as, x.taken(1, as), under[l].indexOf('0' + as) >= 0 ? l : -13);
            }
            for (int as = 10; as <= 14; as++) due.is("a lamp as a row", x.taken(1, as), -13);
        }
        due.is("the other shelf", x.taken(0, 0), -11);
        x.remake(4, 1);
        due.is("a remade lamp", x.taken(1, 5), -13);
        due.is("a remade lamp", x.taken(1, 1), 4);
        due.is("a missing sheet is nothing", x.shelf(1, 1, 0), 1);
        due.is("nothing", x.taken(1, 0), -11);
        due.is("nothing", x.taken(1, 10), -11);
        for (int sort = 0; sort < 5; sort++) {
            x.sheet(2, sort, 7 + sort);
            due.is("a row on a shelf", x.shelf(2, 1, 2), 1);
            for (int as = 10; as <= 14; as++) due.is("a row taken", x.taken(2, as), as - 10 == sort ? 7 + sort : -13);
            for (int as = 0; as <= 5; as++) due.is("a row as a lamp", x.taken(2, as), -13);
        }
        x.sheet(2, 0, 3);
        due.is("the row stays on its shelf", x.taken(2, 14), 11);
        due.is("the row stays on its shelf", x.taken(2, 10), -13);
        x.sheet(2, -1, 0);
        due.is("the row stays on its shelf", x.taken(2, 14), 11);
        x.shelf(2, 2, 0);
        due.is("nothing", x.taken(2, 14), -11);
        due.is("bad leaves it", x.shelf(1, 0, 4), 1);
        due.is("bad leaves it", x.shelf(1, 0, 5), -1);
        due.is("bad leaves it", x.taken(1, 0), 4);
    }

    private static void lampsThatGo() {
        LampThatFollows x = new LampThatFollows();
        x.keep();
        x.lamp(1, 0, 3, 1);
        x.shelf(0, 0, 0);
        due.is("a lamp", x.taken(0, 0), 0);
        x.again();
        due.is("no such lamp any more", x.taken(0, 0), -11);
        due.is("no such lamp any more", x.taken(0, 10), -11);
        due.is("nothing acts", x.act(0, 0, 5), 0);
        due.is("no trace", x.many(6), 0);
        x.lamp(2, 0, 4, 1);
        due.is("a lamp of that number", x.taken(0, 2), 0);
        due.is("it acts", x.act(0, 0, 5), 9);
    }

    private static void act(LampThatFollows x, int shelf, int act, int v, int want, int... bodies) {
        due.is("act(" + shelf + ", " + act + ", " + v + ")", x.act(shelf, act, v), want);
        due.is("its bodies", x.many(6), bodies.length);
        for (int i = 0; i < bodies.length; i++) due.is("trace(" + i + ")", x.trace(i), bodies[i]);
        due.is("no trace", x.trace(bodies.length), -3);
        due.is("no trace", x.trace(-1), -3);
        due.is("no trace", x.trace(30), -3);
    }

    /** Lamps 0 to 5 of the kinds 5, 1, 2, 3, 4, 5 with the sizes 4, 5, 6, 7, 8, 9, of which one is on shelf 3. */
    private static LampThatFollows acting(int l) {
        LampThatFollows x = new LampThatFollows();
        int[] kinds = {5, 1, 2, 3, 4, 5};
        for (int k = 0; k < 6; k++) x.lamp(kinds[k], 0, 4 + k, 1);
        x.shelf(3, 0, l);
        return x;
    }

    private static void acts() {
        LampThatFollows x = acting(1);
        act(x, 3, 0, 10, 30, 20, 10);
        act(x, 3, 1, 10, 29, 11, 20, 10);
        act(x, 3, 2, 11, 2, 12);
        act(x, 3, 2, -11, -2, 12);
        act(x, 3, 3, 10, 29 ^ 5, 13, 11, 20, 10);
        x = acting(2);
        act(x, 3, 0, 10, 16, 10);
        act(x, 3, 1, 10, 14 ^ 2, 30, 11, 10);
        act(x, 3, 2, 10, 2, 12);
        act(x, 3, 3, 10, 14 ^ 2 ^ 6, 13, 30, 11, 10);
        x = acting(3);
        act(x, 3, 0, 10, 16, 50, 10);
        act(x, 3, 1, 10, 13 ^ 3, 30, 11, 50, 10);
        act(x, 3, 2, 10, 2, 12);
        act(x, 3, 3, 10, (13 ^ 3 ^ 7) + 1, 51, 13, 30, 11, 50, 10, 12);
        x = acting(4);
        act(x, 3, 0, 10, 18, 10);
        act(x, 3, 1, 10, 14, 11, 10);
        act(x, 3, 2, 10, 1, 40, 12);
        act(x, 3, 2, -10, -3, 40, 12);
        act(x, 3, 3, 10, 14 ^ 8, 13, 11, 10);
        x = acting(5);
        act(x, 3, 0, 10, 19, 10);
        act(x, 3, 1, 10, -14, 60, 11, 10);
        act(x, 3, 2, 25, 5 - 14, 61, 40, 12, 10);
        act(x, 3, 3, 10, -14 ^ 9, 13, 60, 11, 10);
        act(x, 3, 0, Integer.MAX_VALUE, Integer.MIN_VALUE + 8, 10);
        act(x, 3, 2, Integer.MIN_VALUE, 536870911 - 14, 61, 40, 12, 10);
        x = acting(1);
        x.change(1, 2, 0);
        act(x, 3, 2, Integer.MIN_VALUE, Integer.MIN_VALUE, 12);
        act(x, 3, 2, 7, -7, 12);
        act(x, 3, 0, Integer.MAX_VALUE, -2, 20, 10);
        x.remake(1, 2);
        act(x, 3, 0, 10, 10, 10);
    }

    private static void noActs() {
        LampThatFollows x = acting(2);
        x.sheet(0, 0, 5);
        x.shelf(0, 1, 0);
        int[][] none = {{3, 4}, {3, -1}, {4, 0}, {-1, 0}, {0, 0}, {1, 0}};
        for (int[] no : none) {
            act(x, 3, 0, 10, 16, 10);
            act(x, no[0], no[1], 10, 0);
        }
    }

    private static void partedBy0() {
        LampThatFollows x = acting(1);
        x.change(1, 2, 1);
        act(x, 3, 2, 10, -15, 12);
        act(x, 3, 0, 10, 22, 20, 10);
        x = acting(2);
        x.change(2, 2, 2);
        act(x, 3, 2, 10, -15, 12);
        act(x, 3, 3, 10, 10 ^ 2 ^ 2, 13, 30, 11, 10);
        x = acting(3);
        x.change(3, 2, 3);
        act(x, 3, 3, 10, -15, 51, 13, 30, 11, 50, 10, 12);
        act(x, 3, 1, 10, 9 ^ 3, 30, 11, 50, 10);
        x = acting(4);
        x.change(4, 2, 4);
        act(x, 3, 2, 10, -15, 40, 12);
        x = acting(5);
        x.change(5, 2, 5);
        act(x, 3, 2, 10, -15, 61, 40, 12);
        act(x, 3, 1, 10, -10, 60, 11, 10);
    }

    private static void manies() {
        LampThatFollows x = acting(3);
        x.dance(1);
        x.dance(2);
        x.report(1, 1, 1, 1);
        Due.rules(x, "old wait;old wait;old wait;");
        Due.feed(x, "12345");
        x.prove(2);
        x.act(3, 3, 1);
        int[] want = {6, 3, 2, 1, 2, 5, 7};
        for (int what = 0; what < 7; what++) due.is("many(" + what + ")", x.many(what), want[what]);
        due.is("many(7)", x.many(7), -1);
        due.is("many(-1)", x.many(-1), -1);
    }
}
