/** The boundary cases that part 2 of the terms and promises 11 and 12 name: the tape, the rules. */
public final class RulesBoundaryTest {
    private static final Due due = new Due("RulesBoundaryTest");
    private static final int MIN = Integer.MIN_VALUE, MAX = Integer.MAX_VALUE;

    public static void main(String[] args) {
        promise11OneToEightBytes();
        promise11LowestFirst();
        promise11More200();
        promise11BytesOfAnySort();
        promise12UsesTheTapeUp();
        promise12NoText();
        promise12InPlaceOfAll();
        promise12FaultsAreTold();
        eightRulesAtMost();
        theFirstNameOfTheNinthRule();
        leadAndLagOf0To99();
        numbersOf1To4Digits();
        moreDigitsAtTheirFirstByte();
        namesAsLongAsTheyGo();
        blanksPartAndStandElsewhere();
        threeOpenAtMost();
        theEndIfMoreMustCome();
        otherBytes();
        theFirstThatCantStandThere();
        theFirstRuleThatHolds();
        factsAtTheirBounds();
        nots();
        due.end();
    }

    private static void promise11OneToEightBytes() {
        LampThatFollows x = new LampThatFollows();
        for (int n : new int[] {MIN, -1, 0, 9, 10, 200, MAX}) due.is("feed of " + n, x.feed(0L, n), -1);
        due.is("nothing came", x.many(5), 0);
        int has = 0;
        for (int n = 1; n <= 8; n++) due.is("feed of " + n, x.feed(0x2020202020202020L, n), has += n);
        due.is("all came", x.many(5), 36);
    }

    private static void promise11LowestFirst() {
        LampThatFollows x = new LampThatFollows();
        x.feed(0x69617720646c6f20L, 8);
        x.feed(0x3b74L, 2);
        due.is("« old wait;»", x.rules(), 1);
        x.feed(0x20646c6fL, 8);
        due.is("four bytes 0 behind «old »", x.rules(), -104);
        x.feed(0x20646c6fL, 4);
        due.is("«old » alone", x.rules(), -104);
        x.feed(-1L, 1);
        due.is("a byte 255", x.rules(), -100);
        x.feed(0xffffffffffffff20L, 1);
        due.is("the other bytes count nothing", x.rules(), 0);
        x.feed(0xff20202020202020L, 8);
        due.is("the eighth byte", x.rules(), -107);
        x.feed(Long.MIN_VALUE, 8);
        due.is("the first byte 0", x.rules(), -100);
    }

    private static void promise11More200() {
        LampThatFollows x = new LampThatFollows();
        Due.feed(x, " ".repeat(192));
        due.is("192", x.many(5), 192);
        due.is("eight more", x.feed(0x3b74696177206420L, 8), 200);
        due.is("one more", x.feed(0L, 1), -2);
        due.is("eight more", x.feed(0L, 8), -2);
        due.is("bad, and full", x.feed(0L, 9), -1);
        due.is("bad, and full", x.feed(0L, 0), -1);
        due.is("none came", x.many(5), 200);
        due.is("what was fed stays", x.rules(), -293);
        Due.feed(x, " ".repeat(193));
        due.is("eight would be 201", x.feed(0x2020202020202020L, 8), -2);
        due.is("none of the eight came", x.many(5), 193);
        due.is("seven are 200", x.feed(0x20202020202020L, 7), 200);
        due.is("blanks", x.rules(), 0);
        due.is("used up, it takes more", x.feed(0x20L, 1), 1);
    }

    private static void promise11BytesOfAnySort() {
        LampThatFollows x = new LampThatFollows();
        for (int b = 0; b < 256; b++) {
            x.feed(b, 1);
            due.is("the byte " + b + " alone", x.rules(), b == 32 ? 0 : -100);
        }
    }

    private static void promise12UsesTheTapeUp() {
        LampThatFollows x = new LampThatFollows();
        due.is("rules", Due.rules(x, "old wait;"), 1);
        due.is("used up", x.many(5), 0);
        due.is("a fault", Due.rules(x, "old wait"), -108);
        due.is("used up", x.many(5), 0);
        due.is("many rules as before", x.many(1), 1);
        due.is("an empty tape tells none", x.rules(), 0);
        due.is("many rules", x.many(1), 0);
    }

    private static void promise12NoText() {
        LampThatFollows x = new LampThatFollows();
        due.is("no byte", x.rules(), 0);
        due.is("a blank", Due.rules(x, " "), 0);
        due.is("200 blanks", Due.rules(x, " ".repeat(200)), 0);
    }

    private static void promise12InPlaceOfAll() {
        LampThatFollows x = Due.dancing(10, 20);
        x.lamp(1, 15, 0, 1);
        due.is("three rules", Due.rules(x, "old wait;old wait;hand wait;"), 3);
        due.is("the third holds", x.lampOf(0, 4), 41);
        due.is("one rule", Due.rules(x, "hand lead 1;"), 1);
        due.is("it holds", x.lampOf(0, 4), 20);
        due.is("a fault", Due.rules(x, "hand wait;hand wait;hand"), -124);
        due.is("many as before", x.many(1), 1);
        due.is("the one before holds", x.lampOf(0, 4), 20);
        due.is("none", Due.rules(x, ""), 0);
        due.is("none holds", x.lampOf(0, 4), 10);
    }

    private static void fault(String text, int place) {
        LampThatFollows x = new LampThatFollows();
        due.is("«" + text + "»", Due.rules(x, text), -100 - place);
        due.is("no rules by «" + text + "»", x.many(1), 0);
    }

    private static void right(String text, int many) {
        LampThatFollows x = new LampThatFollows();
        due.is("«" + text + "»", Due.rules(x, text), many);
        due.is("how many by «" + text + "»", x.many(1), many);
    }

    private static void promise12FaultsAreTold() {
        fault("x", 0);
        fault(" x", 1);
        fault(" ".repeat(199) + "x", 199);
        fault(" ".repeat(196) + "hand", 200);
        fault("old wait;" + " ".repeat(190) + ";", 199);
    }

    private static void eightRulesAtMost() {
        for (int many = 1; many <= 8; many++) right("hand wait;".repeat(many), many);
        right("hand wait;".repeat(8) + " ".repeat(120), 8);
        right("old if 1<2 and 3>2 wait;".repeat(8), 8);
        LampThatFollows x = Due.dancing(10, 20, 30);
        x.lamp(2, 15, 0, 1);
        Due.rules(x, "old wait;".repeat(7) + "hand lead 2;");
        due.is("the eighth rule holds", x.lampOf(0, 4), 30);
        Due.rules(x, "old wait;".repeat(7) + "nervous lead 2;");
        due.is("the eighth rule is of another kind", x.lampOf(0, 4), 10);
    }

    private static void theFirstNameOfTheNinthRule() {
        fault("hand wait;".repeat(9), 80);
        fault("hand wait;".repeat(8) + "  hand wait;", 82);
        fault("hand wait;".repeat(8) + "hand", 80);
        fault("hand wait;".repeat(8) + "x", 80);
        fault("hand wait;".repeat(8) + "7", 80);
        fault("hand wait;".repeat(8) + ";", 80);
        fault("hand wait;".repeat(7) + "hand;hand wait;", 74);
    }

    private static void leadAndLagOf0To99() {
        for (String deed : new String[] {"lead", "lag"}) {
            String head = "hand " + deed + " ";
            int at = head.length();
            for (String n : new String[] {"0", "00", "0000", "9", "99", "099", "0099"}) right(head + n + ";", 1);
            for (String n : new String[] {"100", "0100", "101", "999", "9999", "00099", "10000"}) {
                fault(head + n + ";", at);
            }
            fault(head + "-1;", at);
            fault(head + ";", at);
            fault(head + "x;", at);
            fault(head + "beat;", at);
            fault(head, at);
            fault(head + "(1);", at);
            fault(head + "1 1;", at + 2);
            right("hand " + deed + "5;", 1);
        }
        fault("hand wait 0;", 10);
    }

    private static void numbersOf1To4Digits() {
        for (String n : new String[] {"0", "9", "10", "99", "100", "999", "1000", "9999", "0000"}) {
            right("hand if " + n + "=" + n + " wait;", 1);
        }
        LampThatFollows x = Due.dancing(10, 20);
        x.lamp(1, 15, 0, 1);
        Due.rules(x, "hand if 9999>9998 and 0=0000 and 0009=9 lead 1;");
        due.is("the least and the greatest NUMBER", x.lampOf(0, 4), 20);
        Due.rules(x, "hand if 1000=999 or 9999<1000 or 10=1 or 0>0 lead 1;");
        due.is("each digit counts", x.lampOf(0, 4), 10);
    }

    private static void moreDigitsAtTheirFirstByte() {
        fault("hand if 10000=1 wait;", 8);
        fault("hand if 00000=1 wait;", 8);
        fault("hand if 1=99999 wait;", 10);
        fault("hand if 1=1 and 123456789012345678901234567890=1 wait;", 16);
        fault("hand lead 00001;", 10);
        fault("hand lag 12345", 9);
        fault("12345", 0);
        fault("hand 12345 wait;", 5);
        fault("9".repeat(200), 0);
    }

    private static void namesAsLongAsTheyGo() {
        fault("handwait;", 0);
        fault("hands wait;", 0);
        fault("han wait;", 0);
        fault("hand waitwait;", 5);
        fault("hand waits;", 5);
        fault("hand wai;", 5);
        fault("hand ifbeat<1 wait;", 5);
        fault("hand if beats<1 wait;", 8);
        fault("hand if notbeat<1 wait;", 8);
        fault("hand if 1<2 andbeat<1 wait;", 12);
        fault("hand if beat<placewait;", 13);
        fault("a".repeat(200), 0);
        right("hand if 1<2wait;", 1);
        right("hand if 1<2and 2<3or 3<4wait;", 1);
        right("hand if beat<3lead4;", 1);
        right("hand if not(beat<3)wait;", 1);
        right("hand lead 5;old lag 5;steady wait;quick wait;nervous wait;tired wait;", 6);
    }

    private static void blanksPartAndStandElsewhere() {
        right("hand wait;", 1);
        right("   hand   wait   ;   ", 1);
        right("hand if((1<2)and(2>1))wait;", 1);
        right(" hand  if  (  (  1  <  2  )  and  (  2  >  1  )  )  lead  5  ; ", 1);
        fault("ha nd wait;", 0);
        fault("hand wa it;", 5);
        fault("hand if 1 2<3 wait;", 10);
        fault("hand lead 1 2;", 12);
        fault("hand\twait;", 4);
        fault("hand\nwait;", 4);
        fault("hand\u00a0wait;", 4);
        fault("hand wait;\n", 10);
    }

    private static void threeOpenAtMost() {
        right("hand if (1=1) wait;", 1);
        right("hand if ((1=1)) wait;", 1);
        right("hand if (((1=1))) wait;", 1);
        fault("hand if ((((1=1)))) wait;", 11);
        fault("hand if ( ( ( (1=1)))) wait;", 14);
        fault("hand if ((((", 11);
        fault("hand if not(not(not(not(1=1)))) wait;", 23);
        fault("hand if (((1=1 and (1=1)))) wait;", 19);
        fault("hand if (((1=1 or not (1=1)))) wait;", 22);
        right("hand if (((1=1))) and (((1=1))) or (((1=1))) wait;", 1);
        right("hand if (1=1) and (1=1) and (1=1) and (1=1) and (1=1) wait;", 1);
        right("hand if ((1=1) and ((1=1) or (1=1))) wait;", 1);
        fault("hand if (((1=1)) or ((((1=1)))) wait;", 22);
        right("hand if (((1=1)))wait;hand if (((1=1)))wait;", 2);
    }

    private static void theEndIfMoreMustCome() {
        String[] heads = {"hand", "hand if", "hand if not", "hand if (", "hand if 1", "hand if 1<", "hand if 1<2",
            "hand if (1<2", "hand if (1<2)", "hand if 1<2 and", "hand if 1<2 or", "hand if 1<2 or not", "hand lead",
            "hand lag", "hand lead 5", "hand lag 5", "hand wait", "hand if 1<2 wait", "hand wait;old"};
        for (String head : heads) {
            fault(head, head.length());
            fault(head + "   ", head.length() + 3);
            fault("  " + head, head.length() + 2);
        }
        String full = "hand if " + "not ".repeat(48);
        due.is("a text of 200 bytes", full.length(), 200);
        fault(full, 200);
    }

    private static void otherBytes() {
        for (int b = 0; b < 256; b++) {
            boolean part = b == ' ' || b >= 'a' && b <= 'z' || b >= '0' && b <= '9';
            if (part) continue;
            fault((char) b + "hand wait;", 0);
            fault("hand" + (char) b + "wait;", 4);
            if (b != ';') fault("hand wait" + (char) b + ";", 9);
            fault("hand wait;" + (char) b, 10);
            if (b < '<' || b > '>') fault("hand if beat" + (char) b + "1 wait;", 12);
        }
        right("hand if beat<1 wait;hand if beat=1 wait;hand if beat>1 wait;", 3);
    }

    private static void theFirstThatCantStandThere() {
        fault("if 1<2 wait;", 0);
        fault("wait;", 0);
        fault("hand;", 4);
        fault("hand hand wait;", 5);
        fault("hand beat wait;", 5);
        fault("hand if wait;", 8);
        fault("hand if hand<1 wait;", 8);
        fault("hand if beat wait;", 13);
        fault("hand if beat beat<1 wait;", 13);
        fault("hand if beat<<1 wait;", 13);
        fault("hand if beat<if wait;", 13);
        fault("hand if (beat)<1 wait;", 13);
        fault("hand if beat<(1) wait;", 13);
        fault("hand if beat<not 1 wait;", 13);
        fault("hand if beat<1<2 wait;", 14);
        fault("hand if beat<1) wait;", 14);
        fault("hand if ) wait;", 8);
        fault("hand if and 1<2 wait;", 8);
        fault("hand if or 1<2 wait;", 8);
        fault("hand if 1<2 and and 1<2 wait;", 16);
        fault("hand if 1<2 and or 1<2 wait;", 16);
        fault("hand if 1<2 not 1<2 wait;", 12);
        fault("hand if 1<2 if 1<2 wait;", 12);
        fault("hand if 1<2;", 11);
        fault("hand if (1<2;", 12);
        fault("hand if (1<2 wait;", 13);
        fault("hand if (1<2 and (2<3) wait;", 23);
        fault("hand wait old wait;", 10);
        fault("hand wait if 1<2;", 10);
        fault("hand wait;;", 10);
        fault(";", 0);
        fault("5;", 0);
        fault("hand 5;", 5);
        fault("Hand wait;", 0);
        fault("hAnd wait;", 0);
        fault("hand x y z", 5);
        fault("hand if 1<2 wait x 10000", 17);
    }

    private static void theFirstRuleThatHolds() {
        LampThatFollows x = Due.dancing(10, 20, 30, 40);
        x.lamp(3, 15, 0, 1);
        Due.rules(x, "old lead 3;hand if 1=2 lead 3;quick lead 2;nervous lead 1;hand wait;");
        due.is("one above it, ahead of its own", x.lampOf(0, 4), 30);
        Due.rules(x, "nervous lead 1;quick lead 2;");
        due.is("its own first", x.lampOf(0, 4), 20);
        Due.rules(x, "tired wait;old wait;steady wait;");
        due.is("none is its or above it", x.lampOf(0, 4), 10);
        x.remake(0, 2);
        Due.rules(x, "nervous lead 1;quick lead 2;");
        due.is("one under it counts nothing", x.lampOf(0, 4), 30);
        x.remake(0, 4);
        Due.rules(x, "tired lead 1;hand lead 3;old lead 2;");
        due.is("hand is above all", x.lampOf(0, 4), 40);
    }

    /** Whether the first lamp of these is led by a rule of that condition: 1 or 0. */
    private static int holds(LampThatFollows x, int l, String cond) {
        due.is("«" + cond + "»", Due.rules(x, "hand if " + cond + " wait;"), 1);
        return x.lampOf(l, 4) == 41 ? 1 : 0;
    }

    private static void factsAtTheirBounds() {
        LampThatFollows x = new LampThatFollows();
        for (int b = 0; b < 16; b++) x.dance(b == 0 ? 40 : 0);
        for (int l = 0; l < 6; l++) x.lamp(1, l == 0 ? 0 : 40, l == 0 ? 0 : 9, 1);
        due.is("the first beat", holds(x, 0, "beat=0"), 1);
        due.is("not less than 0", holds(x, 0, "beat<0 or place<0 or aim<0 or size<0 or number<0"), 0);
        due.is("place 40", holds(x, 0, "place=40"), 1);
        due.is("aim 0", holds(x, 0, "aim=0 and size=0 and number=0"), 1);
        due.is("aim 40", holds(x, 5, "aim=40 and size=9 and number=5"), 1);
        due.is("not more", holds(x, 5, "aim>40 or size>9 or number>5"), 0);
        for (int b = 0; b < 16; b++) x.beat();
        due.is("behind the last beat", holds(x, 0, "beat=16 and place=0"), 1);
        due.is("facts against facts", holds(x, 0, "beat=16 and beat>place and size<beat"), 1);
    }

    private static void nots() {
        LampThatFollows x = Due.dancing(10);
        x.lamp(1, 15, 0, 1);
        for (int many = 0; many <= 40; many++) {
            due.is(many + " nots", holds(x, 0, "not ".repeat(many) + "1=1"), many % 2 == 0 ? 1 : 0);
            due.is(many + " nots", holds(x, 0, "not ".repeat(many) + "(1=2)"), many % 2);
        }
        due.is("not is of one", holds(x, 0, "not 1=1 or 1=1"), 1);
        due.is("not is of one", holds(x, 0, "not 1=2 and 1=2"), 0);
        due.is("and binds first", holds(x, 0, "1=1 or 1=1 and 1=2"), 1);
        due.is("and binds first", holds(x, 0, "1=2 and 1=1 or 1=1"), 1);
    }
}
