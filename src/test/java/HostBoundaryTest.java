/** The boundary cases that promises 39 to 48 name: sheets, shelves, acts, the trace, how many. */
public final class HostBoundaryTest {
    private static final Due due = new Due("HostBoundaryTest");
    private static final int MIN = Integer.MIN_VALUE, MAX = Integer.MAX_VALUE;
    private static final int[] OUTSIDE_OF_FOUR = {MIN, -1, 4, 5, MAX};

    public static void main(String[] args) {
        promise39NoSuchSheetOrSort();
        promise39NIs0To40();
        promise39MissingNCountsNothing();
        promise39All0Again();
        promise39EachSheetAlone();
        promise40NoSuchSheetMissingOutside();
        promise40NarrowedToItsSort();
        promise41OtherSortMissingOutside();
        promise41AsLowAsRefusals();
        promise42RefusalsInTheirOrder();
        promise42NIs0To20();
        promise42WhatIsNoneIsLeftOut();
        promise42WhenItIsOverIsLeftOut();
        promise42WhatStoodAheadWasDone();
        promise43RefusalsInTheirOrder();
        promise43NIs0To20();
        promise43ByItems();
        promise43Over();
        promise44NoSuchShelfWhatThing();
        promise44MissingIsNothing();
        promise44TheRowStays();
        promise44EachShelfAlone();
        promise45NoSuchShelfOrAs();
        promise45OneUnderIt();
        promise45OtherKindOrSort();
        promise45LampsThatAreNot();
        promise46NothingActs();
        promise46PartedBy0();
        promise46IntsThatWrap();
        promise46QuotientsAreCutTowards0();
        promise46ByItsNumberAndSize();
        promise47NoBody();
        promise47TheLatestActAlone();
        promise48WhatIs0To6();
        promise48TheMostOfEach();
        due.end();
    }

    private static void promise39NoSuchSheetOrSort() {
        LampThatFollows x = new LampThatFollows();
        for (int sheet : OUTSIDE_OF_FOUR) {
            for (int sort = -1; sort <= 4; sort++) due.is("sheet " + sheet, x.sheet(sheet, sort, 1), -1);
            due.is("sheet " + sheet + " below 0", x.sheet(sheet, 0, -1), -1);
        }
        for (int sort : new int[] {MIN, -2, 5, MAX}) {
            due.is("sort " + sort, x.sheet(0, sort, 1), -1);
            due.is("sort " + sort + " below 0", x.sheet(0, sort, -1), -1);
        }
        for (int sheet = 0; sheet < 4; sheet++) {
            for (int sort = 0; sort < 5; sort++) due.is("missing as at first", x.item(sheet, sort, 0), -11);
        }
    }

    private static void promise39NIs0To40() {
        LampThatFollows x = new LampThatFollows();
        for (int sort = 0; sort < 5; sort++) {
            due.is("40", x.sheet(0, sort, 40), 1);
            due.is("its last", x.item(0, sort, 39), 0);
            due.is("no more", x.item(0, sort, 40), -12);
            for (int n : new int[] {41, 42, MAX}) due.is("n " + n, x.sheet(0, sort, n), -1);
            for (int n : new int[] {-1, -2, MIN}) due.is("n " + n, x.sheet(0, sort, n), -14);
            due.is("40 yet", x.item(0, sort, 39), 0);
            due.is("1", x.sheet(0, sort, 1), 1);
            due.is("its only one", x.item(0, sort, 0), 0);
            due.is("no more", x.item(0, sort, 1), -12);
            due.is("0", x.sheet(0, sort, 0), 1);
            due.is("none", x.item(0, sort, 0), -12);
            due.is("none is no missing one", x.write(0, 0, 1), -12);
        }
    }

    private static void promise39MissingNCountsNothing() {
        LampThatFollows x = new LampThatFollows();
        for (int n : new int[] {MIN, -1, 0, 40, 41, MAX}) {
            x.sheet(2, 1, 3);
            due.is("missing, n " + n, x.sheet(2, -1, n), 1);
            due.is("it is", x.item(2, 1, 0), -11);
            due.is("missing again", x.sheet(2, -1, n), 1);
        }
    }

    private static void promise39All0Again() {
        LampThatFollows x = new LampThatFollows();
        for (int sort = 0; sort < 5; sort++) {
            x.sheet(1, sort, 40);
            for (int i = 0; i < 40; i++) x.write(1, i, 1);
            due.is("a sheet of the same sort", x.sheet(1, sort, 40), 1);
            for (int i = 0; i < 40; i++) due.is("all 0", x.item(1, sort, i), 0);
            for (int i = 0; i < 40; i++) x.write(1, i, 1);
        }
        x.sheet(1, 0, 1);
        x.sheet(1, 0, 40);
        for (int i = 0; i < 40; i++) due.is("all 0, also behind a shorter one", x.item(1, 0, i), 0);
    }

    private static void promise39EachSheetAlone() {
        LampThatFollows x = new LampThatFollows();
        for (int sheet = 0; sheet < 4; sheet++) {
            x.sheet(sheet, sheet + 1, 10 + sheet);
            for (int i = 0; i < 10 + sheet; i++) x.write(sheet, i, sheet == 3 ? 1 : 10 * sheet + i);
        }
        for (int sheet = 0; sheet < 4; sheet++) {
            for (int i = 0; i < 10 + sheet; i++) {
                due.is("sheet " + sheet, x.item(sheet, sheet + 1, i), sheet == 3 ? 1 : 10 * sheet + i);
            }
            due.is("no more of sheet " + sheet, x.item(sheet, sheet + 1, 10 + sheet), -12);
        }
        for (int sheet = 0; sheet < 4; sheet++) {
            x.sheet(sheet, -1, 0);
            for (int other = 0; other < 4; other++) {
                due.is("up to " + sheet + " missing", x.write(other, 0, 1), other <= sheet ? -11 : 1);
            }
        }
    }

    private static void promise40NoSuchSheetMissingOutside() {
        LampThatFollows x = new LampThatFollows();
        for (int sheet : OUTSIDE_OF_FOUR) due.is("sheet " + sheet, x.write(sheet, 0, 1), -1);
        for (int i : new int[] {MIN, -1, 0, 40, MAX}) due.is("missing, item " + i, x.write(3, i, 1), -11);
        x.sheet(3, 2, 5);
        for (int i : new int[] {MIN, -1, 5, 6, 39, 40, MAX}) due.is("item " + i, x.write(3, i, 1), -12);
        for (int i = 0; i < 5; i++) due.is("all 0 yet", x.item(3, 2, i), 0);
        due.is("the first", x.write(3, 0, 8), 1);
        due.is("the last", x.write(3, 4, 9), 1);
        int[] want = {8, 0, 0, 0, 9};
        for (int i = 0; i < 5; i++) due.is("item " + i, x.item(3, 2, i), want[i]);
    }

    private static void promise40NarrowedToItsSort() {
        int[][] bytes = {{127, 127}, {128, -128}, {-128, -128}, {-129, 127}, {255, -1}, {256, 0}, {257, 1}, {MIN, 0},
            {MAX, -1}};
        narrows(0, bytes);
        int[][] shorts = {{127, 127}, {128, 128}, {32767, 32767}, {32768, -32768}, {-32768, -32768}, {-32769, 32767},
            {65535, -1}, {65536, 0}, {MIN, 0}, {MAX, -1}};
        narrows(1, shorts);
        int[][] whole = {{MIN, MIN}, {MAX, MAX}, {-1, -1}, {65536, 65536}, {0, 0}};
        narrows(2, whole);
        narrows(3, whole);
        int[][] booleans = {{0, 0}, {1, 1}, {-1, 1}, {2, 1}, {256, 1}, {65536, 1}, {MIN, 1}, {MAX, 1}, {0, 0}};
        narrows(4, booleans);
    }

    private static void narrows(int sort, int[][] cases) {
        LampThatFollows x = new LampThatFollows();
        x.sheet(0, sort, 3);
        for (int[] c : cases) {
            due.is("write " + c[0] + " to sort " + sort, x.write(0, 1, c[0]), 1);
            due.is("it is", x.item(0, sort, 1), c[1]);
        }
        due.is("ahead of it", x.item(0, sort, 0), 0);
        due.is("behind it", x.item(0, sort, 2), 0);
    }

    private static void promise41OtherSortMissingOutside() {
        LampThatFollows x = new LampThatFollows();
        for (int sheet : OUTSIDE_OF_FOUR) due.is("sheet " + sheet, x.item(sheet, 0, 0), -1);
        for (int sort : new int[] {MIN, -2, -1, 5, 10, MAX}) {
            due.is("sort " + sort + " of a missing one", x.item(0, sort, 0), -1);
        }
        for (int sort = 0; sort < 5; sort++) due.is("missing", x.item(0, sort, 99), -11);
        for (int is = 0; is < 5; is++) {
            x.sheet(0, is, 2);
            for (int as : new int[] {MIN, -2, -1, 5, 10, MAX}) due.is("sort " + as, x.item(0, as, 0), -1);
            for (int as = 0; as < 5; as++) {
                due.is("sort " + is + " as " + as, x.item(0, as, 1), is == as ? 0 : -13);
                for (int i : new int[] {MIN, -1, 2, 40, MAX}) {
                    due.is("sort " + is + " as " + as + ", item " + i, x.item(0, as, i), is == as ? -12 : -13);
                }
            }
        }
    }

    private static void promise41AsLowAsRefusals() {
        LampThatFollows x = new LampThatFollows();
        for (int sort = 0; sort < 4; sort++) {
            x.sheet(0, sort, 1);
            for (int v : new int[] {-1, -11, -12, -13}) {
                x.write(0, 0, v);
                due.is("an item of sort " + sort, x.item(0, sort, 0), v);
            }
        }
    }

    /** Five beats at all of which lamp 0 has her, and a row of six for bytes that are all 0. */
    private static LampThatFollows five() {
        LampThatFollows x = Due.dancing(20, 20, 20, 20, 20);
        x.lamp(1, 20, 0, 1);
        x.sheet(0, 0, 6);
        return x;
    }

    private static void promise42RefusalsInTheirOrder() {
        LampThatFollows x = five();
        for (int sheet : OUTSIDE_OF_FOUR) due.is("sheet " + sheet, x.goAll(sheet, 0, 1), -1);
        for (int n : new int[] {MIN, -1, 21, MAX}) {
            due.is("n " + n, x.goAll(0, 0, n), -1);
            due.is("n " + n + " of a missing one", x.goAll(1, 0, n), -1);
        }
        due.is("missing", x.goAll(1, 0, 1), -11);
        due.is("missing, and none of it", x.goAll(1, 0, 0), -11);
        due.is("missing, and outside", x.goAll(1, -1, 1), -11);
        for (int sort = 1; sort <= 4; sort++) {
            x.sheet(1, sort, 3);
            due.is("sort " + sort, x.goAll(1, 0, 1), -13);
            due.is("sort " + sort + ", and outside", x.goAll(1, 3, 1), -13);
            due.is("sort " + sort + ", and none of it", x.goAll(1, 0, 0), -13);
            due.is("sort " + sort + ", and n 21", x.goAll(1, 0, 21), -1);
        }
        for (int i : new int[] {MIN, -1, 6, 40, MAX}) {
            due.is("from " + i, x.goAll(0, i, 1), -12);
            due.is("from " + i, x.goAll(0, i, 20), -12);
            due.is("none from " + i, x.goAll(0, i, 0), 0);
        }
        due.is("nothing went by", x.state(0), 0);
    }

    private static void promise42NIs0To20() {
        LampThatFollows x = new LampThatFollows();
        for (int b = 0; b < 16; b++) x.dance(20);
        x.lamp(1, 20, 0, 1);
        x.sheet(3, 0, 40);
        due.is("0", x.goAll(3, 0, 0), 0);
        due.is("nothing went by", x.state(0), 0);
        due.is("20, of which 16 are", x.goAll(3, 20, 20), 160);
        due.is("all went by", x.state(0), 16);
        x.anew();
        due.is("1, the last", x.goAll(3, 39, 1), 10);
        due.is("one too many", x.goAll(3, 39, 2), -12);
    }

    private static void promise42WhatIsNoneIsLeftOut() {
        LampThatFollows x = five();
        int[] none = {2, 3, 127, 128, -1, 200};
        for (int i = 0; i < 6; i++) x.write(0, i, none[i]);
        due.is("no act", x.goAll(0, 0, 6), 0);
        due.is("nothing went by", x.state(0), 0);
        x.write(0, 5, 1);
        due.is("the last is one", x.goAll(0, 0, 6), 10);
        due.is("one went by", x.state(0), 1);
        x.write(0, 0, 256);
        due.is("256 narrowed is 0", x.goAll(0, 0, 1), 10);
        x.lamp(1, 20, 0, 1);
        x.write(0, 0, 2);
        due.is("2 is one now", x.goAll(0, 0, 1), 20);
        due.is("and 3 is none yet", x.goAll(0, 1, 1), 0);
        due.is("three went by", x.state(0), 3);
    }

    private static void promise42WhenItIsOverIsLeftOut() {
        LampThatFollows x = five();
        due.is("five of six", x.goAll(0, 0, 6), 50);
        due.is("over", x.state(3), 1);
        due.is("score", x.state(2), 50);
        due.is("none of six", x.goAll(0, 0, 6), 0);
        due.is("the seventh is outside", x.goAll(0, 0, 7), -12);
        due.is("score stays", x.state(2), 50);
        LampThatFollows y = new LampThatFollows();
        y.sheet(0, 0, 2);
        due.is("no dance", y.goAll(0, 0, 2), 0);
        due.is("no dance, outside", y.goAll(0, 0, 3), -12);
    }

    private static void promise42WhatStoodAheadWasDone() {
        LampThatFollows x = five();
        x.steps(1, 30);
        x.write(0, 4, 9);
        due.is("three items, one of them none, then outside", x.goAll(0, 3, 20), -12);
        due.is("two went by", x.state(0), 2);
        due.is("score", x.state(2), 10);
        due.is("its aim", x.lampOf(0, 1), 20);
        due.is("two more", x.goAll(0, 4, 3), -12);
        due.is("it went by", x.state(0), 3);
        due.is("its aim", x.lampOf(0, 1), 21);
    }

    private static void promise43RefusalsInTheirOrder() {
        LampThatFollows x = five();
        for (int sheet : OUTSIDE_OF_FOUR) due.is("sheet " + sheet, x.wouldBe(sheet, 0, 1), -1);
        for (int n : new int[] {MIN, -1, 21, MAX}) {
            due.is("n " + n, x.wouldBe(0, 0, n), -1);
            due.is("n " + n + " of a missing one", x.wouldBe(1, 0, n), -1);
        }
        due.is("missing", x.wouldBe(1, 0, 1), -11);
        due.is("missing, and none of it", x.wouldBe(1, 0, 0), -11);
        due.is("missing, and outside", x.wouldBe(1, -1, 1), -11);
        for (int sort = 1; sort <= 4; sort++) {
            x.sheet(1, sort, 3);
            x.write(1, 0, 9);
            due.is("sort " + sort, x.wouldBe(1, 0, 1), -13);
            due.is("sort " + sort + ", and outside", x.wouldBe(1, 3, 1), -13);
            due.is("sort " + sort + ", and none of it", x.wouldBe(1, 0, 0), -13);
            due.is("sort " + sort + ", and n 21", x.wouldBe(1, 0, 21), -1);
        }
        for (int i : new int[] {MIN, -1, 6, 40, MAX}) {
            due.is("from " + i, x.wouldBe(0, i, 1), -12);
            due.is("none from " + i, x.wouldBe(0, i, 0), 0);
        }
    }

    private static void promise43NIs0To20() {
        LampThatFollows x = new LampThatFollows();
        for (int b = 0; b < 16; b++) x.dance(20);
        x.lamp(1, 20, 0, 1);
        x.sheet(3, 0, 40);
        for (int n = 0; n <= 20; n++) due.is("n " + n, x.wouldBe(3, 20, n), n <= 16 ? 10 * n : -4);
        due.is("nothing went by", x.state(0), 0);
        due.is("the last", x.wouldBe(3, 39, 1), 10);
        due.is("one too many", x.wouldBe(3, 39, 2), -12);
    }

    private static void promise43ByItems() {
        LampThatFollows x = five();
        due.is("outside behind all acts", x.wouldBe(0, 2, 5), -12);
        x.write(0, 3, 2);
        due.is("no act ahead of outside", x.wouldBe(0, 2, 5), -4);
        due.is("no act behind outside", x.wouldBe(0, -1, 5), -12);
        due.is("up to what is none", x.wouldBe(0, 0, 3), 30);
        due.is("with what is none", x.wouldBe(0, 0, 4), -4);
        for (int none : new int[] {2, 127, 128, 255, -1}) {
            x.write(0, 0, none);
            due.is("no act: " + none, x.wouldBe(0, 0, 1), -4);
        }
        x.write(0, 0, 1);
        due.is("an act", x.wouldBe(0, 0, 1), 10);
        due.is("nothing went by", x.state(0), 0);
        due.is("its aim", x.lampOf(0, 1), 20);
    }

    private static void promise43Over() {
        LampThatFollows x = five();
        due.is("five", x.wouldBe(0, 0, 5), 50);
        due.is("over ahead of the sixth", x.wouldBe(0, 0, 6), -4);
        due.is("over ahead of the sixth, ahead of outside", x.wouldBe(0, 0, 7), -4);
        for (int b = 0; b < 5; b++) x.beat();
        due.is("over", x.wouldBe(0, 0, 1), -4);
        due.is("over, and outside", x.wouldBe(0, 6, 1), -12);
        due.is("over, and none of it", x.wouldBe(0, 0, 0), 0);
        due.is("score", x.state(2), 50);
    }

    private static void promise44NoSuchShelfWhatThing() {
        LampThatFollows x = five();
        x.shelf(0, 0, 0);
        for (int shelf : OUTSIDE_OF_FOUR) {
            for (int what = 0; what <= 2; what++) due.is("shelf " + shelf, x.shelf(shelf, what, 0), -1);
        }
        for (int what : new int[] {MIN, -1, 3, MAX}) due.is("what " + what, x.shelf(0, what, 0), -1);
        for (int l : new int[] {MIN, -1, 1, 5, 6, MAX}) due.is("lamp " + l, x.shelf(0, 0, l), -1);
        for (int sheet : OUTSIDE_OF_FOUR) due.is("sheet " + sheet, x.shelf(0, 1, sheet), -1);
        due.is("it holds what it held", x.taken(0, 0), 0);
        for (int n : new int[] {MIN, -1, 0, 4, MAX}) {
            x.shelf(3, 0, 0);
            due.is("nothing, whatever n", x.shelf(3, 2, n), 1);
            due.is("it holds nothing", x.taken(3, 0), -11);
        }
    }

    private static void promise44MissingIsNothing() {
        LampThatFollows x = five();
        x.shelf(0, 0, 0);
        for (int sheet = 1; sheet < 4; sheet++) due.is("missing", x.shelf(0, 1, sheet), 1);
        due.is("nothing", x.taken(0, 0), -11);
        x.sheet(1, 0, 3);
        due.is("nothing, though the sheet is a row now", x.taken(0, 10), -11);
        x.sheet(1, 0, 0);
        due.is("a row of none", x.shelf(0, 1, 1), 1);
        due.is("is no missing one", x.taken(0, 10), 0);
        due.is("of another sort", x.taken(0, 11), -13);
    }

    private static void promise44TheRowStays() {
        LampThatFollows x = five();
        x.shelf(0, 1, 0);
        x.shelf(1, 1, 0);
        x.sheet(0, 3, 40);
        due.is("the row as it was", x.taken(0, 10), 6);
        x.shelf(1, 1, 0);
        due.is("the new row", x.taken(1, 13), 40);
        x.sheet(0, -1, 0);
        due.is("the row as it was", x.taken(0, 10), 6);
        due.is("the new row as it was", x.taken(1, 13), 40);
        x.shelf(1, 1, 0);
        due.is("nothing", x.taken(1, 13), -11);
    }

    private static void promise44EachShelfAlone() {
        LampThatFollows x = new LampThatFollows();
        for (int l = 0; l < 4; l++) x.lamp(1, 0, 0, 1);
        for (int shelf = 0; shelf < 4; shelf++) {
            for (int other = 0; other < 4; other++) x.shelf(other, 0, 3 - other);
            due.is("nothing on " + shelf, x.shelf(shelf, 2, 0), 1);
            for (int other = 0; other < 4; other++) {
                due.is("shelf " + other, x.taken(other, 0), other == shelf ? -11 : 3 - other);
            }
        }
    }

    private static void promise45NoSuchShelfOrAs() {
        LampThatFollows x = five();
        for (int shelf : OUTSIDE_OF_FOUR) {
            due.is("shelf " + shelf, x.taken(shelf, 0), -1);
            due.is("shelf " + shelf, x.taken(shelf, 10), -1);
        }
        for (int held = 0; held <= 2; held++) {
            due.is("put", x.shelf(0, held, 0), 1);
            for (int as : new int[] {MIN, -1, 6, 7, 8, 9, 15, 16, MAX}) due.is("as " + as, x.taken(0, as), -1);
        }
    }

    private static void promise45OneUnderIt() {
        LampThatFollows x = new LampThatFollows();
        int[][] takes = {{0, 1}, {0, 2}, {0, 2, 3}, {0, 4}, {0, 4, 5}};
        for (int kind = 1; kind <= 5; kind++) {
            x.lamp(kind, 0, 0, 1);
            x.shelf(2, 0, kind - 1);
            int as = 0;
            for (int take : takes[kind - 1]) {
                while (as < take) due.is("kind " + kind + " as " + as, x.taken(2, as++), -13);
                due.is("kind " + kind + " as " + as, x.taken(2, as++), kind - 1);
            }
            while (as <= 5) due.is("kind " + kind + " as " + as, x.taken(2, as++), -13);
        }
    }

    private static void promise45OtherKindOrSort() {
        LampThatFollows x = five();
        x.shelf(0, 0, 0);
        for (int as = 10; as <= 14; as++) due.is("a lamp as a row", x.taken(0, as), -13);
        for (int sort = 0; sort < 5; sort++) {
            for (int n : new int[] {0, 1, 40}) {
                x.sheet(1, sort, n);
                x.shelf(1, 1, 1);
                for (int as = 0; as <= 5; as++) due.is("a row as a lamp", x.taken(1, as), -13);
                for (int as = 10; as <= 14; as++) due.is("a row as " + as, x.taken(1, as), as - 10 == sort ? n : -13);
            }
        }
        for (int as = 0; as <= 14; as++) {
            if (as <= 5 || as >= 10) due.is("nothing as " + as, x.taken(2, as), -11);
        }
    }

    private static void promise45LampsThatAreNot() {
        LampThatFollows x = new LampThatFollows();
        x.lamp(1, 0, 0, 1);
        x.keep();
        x.lamp(3, 0, 5, 1);
        x.shelf(0, 0, 1);
        due.is("at the time it is", x.taken(0, 3), 1);
        x.again();
        due.is("nothing", x.taken(0, 3), -11);
        due.is("nothing, also as a row", x.taken(0, 10), -11);
        due.is("nothing acts", x.act(0, 0, 1), 0);
        due.is("no trace", x.many(6), 0);
        x.lamp(5, 0, 6, 1);
        due.is("another one of that number", x.taken(0, 5), 1);
        due.is("is no nervous one", x.taken(0, 3), -13);
        due.is("it acts", x.act(0, 0, 1), 7);
    }

    private static void promise46NothingActs() {
        LampThatFollows x = five();
        x.shelf(0, 0, 0);
        x.shelf(1, 1, 0);
        int[][] none = {{MIN, 0}, {-1, 0}, {4, 0}, {MAX, 0}, {0, MIN}, {0, -1}, {0, 4}, {0, MAX}, {1, 0}, {2, 0},
            {3, 3}};
        for (int[] no : none) {
            due.is("it acts", x.act(0, 0, 5), 10);
            due.is("trace", x.many(6), 2);
            due.is("shelf " + no[0] + ", act " + no[1], x.act(no[0], no[1], 5), 0);
            due.is("no trace", x.many(6), 0);
            due.is("no body", x.trace(0), -3);
        }
    }

    /** Six lamps, of which that of the number is of a kind and a size, alone on shelf 0. */
    private static LampThatFollows acting(int kind, int l, int size) {
        LampThatFollows x = new LampThatFollows();
        for (int k = 0; k < 6; k++) x.lamp(k == l ? kind : 1, 0, k == l ? size : 7, 1);
        x.shelf(0, 0, l);
        return x;
    }

    private static void acts(LampThatFollows x, int act, int v, int want, int... bodies) {
        due.is("act " + act + " of " + v, x.act(0, act, v), want);
        due.is("bodies", x.many(6), bodies.length);
        for (int i = 0; i < bodies.length; i++) due.is("body " + i, x.trace(i), bodies[i]);
        due.is("no more", x.trace(bodies.length), -3);
    }

    private static void promise46PartedBy0() {
        for (int l = 0; l < 6; l++) {
            acts(acting(1, l, l), 2, 5, -15, 12);
            acts(acting(2, l, l), 2, 5, -15, 12);
            acts(acting(3, l, l), 2, 5, -15, 12);
            acts(acting(4, l, l), 2, 5, -15, 40, 12);
            acts(acting(5, l, l), 2, 5, -15, 61, 40, 12);
            acts(acting(3, l, l), 3, 5, -15, 51, 13, 30, 11, 50, 10, 12);
        }
        LampThatFollows x = acting(3, 3, 3);
        due.is("parted", x.act(0, 3, 5), -15);
        acts(x, 1, 5, 5 + 3 - 1 - 3 ^ 3, 30, 11, 50, 10);
        x.change(3, 2, 4);
        acts(x, 3, 5, ((5 + 4 - 1 - 3 ^ 3) ^ 4) + 4, 51, 13, 30, 11, 50, 10, 12);
        acts(acting(2, 4, 4), 3, 5, (5 + 4 - 4 ^ 4) ^ 4, 13, 30, 11, 10);
    }

    private static void promise46IntsThatWrap() {
        acts(acting(1, 0, 9), 0, MAX, (MIN + 8) * 2, 20, 10);
        acts(acting(1, 0, 9), 0, 1 << 30, MIN + 18, 20, 10);
        acts(acting(2, 5, 0), 1, MIN, MAX - 4 ^ 5, 30, 11, 10);
        acts(acting(3, 0, 0), 0, MIN, MAX, 50, 10);
        acts(acting(5, 0, 0), 1, MIN, MIN, 60, 11, 10);
        acts(acting(4, 0, 1), 2, MIN, MAX - 2, 40, 12);
        acts(acting(1, 1, 0), 2, MIN, MIN, 12);
        acts(acting(4, 1, 0), 2, MIN + 3, MIN, 40, 12);
        acts(acting(5, 1, 0), 2, MIN + 3, MAX, 61, 40, 12, 10);
    }

    private static void promise46QuotientsAreCutTowards0() {
        acts(acting(1, 0, 2), 2, 5, 2, 12);
        acts(acting(1, 0, 2), 2, -5, -2, 12);
        acts(acting(1, 2, 0), 2, 5, -2, 12);
        acts(acting(1, 2, 0), 2, -5, 2, 12);
        acts(acting(1, 0, 9), 2, 8, 0, 12);
        acts(acting(1, 0, 9), 2, -8, 0, 12);
        acts(acting(4, 0, 2), 2, 2, 0, 40, 12);
        acts(acting(4, 0, 2), 2, 0, -1, 40, 12);
        acts(acting(5, 0, 2), 2, 2, -2, 61, 40, 12, 10);
    }

    private static void promise46ByItsNumberAndSize() {
        LampThatFollows x = acting(2, 5, 9);
        acts(x, 1, 0, 9 - 5 ^ 5, 30, 11, 10);
        x.remake(5, 4);
        acts(x, 1, 0, 9 - 5, 11, 10);
        x.change(5, 2, 0);
        acts(x, 1, 0, -5, 11, 10);
        x.shelf(0, 0, 0);
        acts(x, 1, 0, 14, 11, 20, 10);
    }

    private static void promise47NoBody() {
        LampThatFollows x = acting(3, 1, 9);
        for (int i : new int[] {MIN, -1, 0, 1, 29, 30, MAX}) due.is("no act yet, body " + i, x.trace(i), -3);
        x.act(0, 3, 1);
        int[] bodies = {51, 13, 30, 11, 50, 10, 12};
        for (int i = 0; i < 7; i++) due.is("body " + i, x.trace(i), bodies[i]);
        for (int i : new int[] {MIN, -1, 7, 8, 29, 30, 31, MAX}) due.is("body " + i, x.trace(i), -3);
    }

    private static void promise47TheLatestActAlone() {
        LampThatFollows x = acting(3, 1, 9);
        for (int i = 0; i < 40; i++) x.act(0, 3, i);
        due.is("the latest alone", x.many(6), 7);
        acts(x, 2, 8, 1, 12);
    }

    private static void promise48WhatIs0To6() {
        LampThatFollows x = new LampThatFollows();
        for (int what = 0; what <= 6; what++) due.is("what " + what, x.many(what), 0);
        for (int what : new int[] {MIN, -1, 7, MAX}) due.is("what " + what, x.many(what), -1);
    }

    private static void promise48TheMostOfEach() {
        LampThatFollows x = acting(3, 1, 9);
        for (int b = 0; b < 17; b++) x.dance(1);
        for (int r = 0; r < 7; r++) x.report(r, 1, 1, 1);
        due.is("rules", Due.rules(x, "old wait;".repeat(8)), 8);
        Due.feed(x, " ".repeat(200));
        x.feed(1L, 1);
        x.lamp(1, 1, 1, 1);
        x.prove(4);
        x.prove(5);
        x.act(0, 3, 1);
        int[] want = {6, 8, 16, 6, 4, 200, 7};
        for (int what = 0; what <= 6; what++) due.is("what " + what, x.many(what), want[what]);
    }
}
