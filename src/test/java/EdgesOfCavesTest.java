/** Promises 1 to 12: of each sentence that names an edge (quoted ahead of its test) a test of its own. */
public final class EdgesOfCavesTest {
    private static final int NONE = -1, BAD = -2, STATE = -3, FULL = -4, NEVER = -5;
    private static final int LOW = Integer.MIN_VALUE, HIGH = Integer.MAX_VALUE;
    private static final Due due = new Due();

    public static void main(String[] args) {
        Tests.run(EdgesOfCavesTest.class, due);
    }

    private static void isCave(String text) {
        LowWater x = new LowWater();
        due.is("cave '" + text + "'", Make.cave(x, text), 0);
        due.is("count(2) behind '" + text + "'", x.count(2), 1);
    }

    private static void faultAt(int place, String text) {
        LowWater x = new LowWater();
        due.is("cave '" + text + "'", Make.cave(x, text), -10 - place);
        due.is("count(2) behind '" + text + "'", x.count(2), 0);
    }

    /** LEVEL at that HOUR under that CAVE. */
    private static void level(String text, int hour, int want) {
        LowWater x = Make.go(Make.under(text), hour);
        due.is("LEVEL at HOUR " + hour + " under " + text, x.told(1), want);
    }

    private static void wave(String text, int hour, int want) {
        LowWater x = Make.go(Make.under(text), hour);
        due.is("WAVE at HOUR " + hour + " under " + text, x.told(2), want);
    }

    // ---- promise 1

    /** "Nothing is there": none of all that is counted. */
    static void promise01_nothingIsCounted() {
        LowWater x = new LowWater();
        for (int what = 0; what < 8; what++) {
            due.is("count(" + what + ")", x.count(what), 0);
        }
    }

    /** "Nothing is there": no SLATE, no READER, no body in THE TRACE, no IMAGE. */
    static void promise01_nothingCanBeAskedOf() {
        LowWater x = new LowWater();
        due.is("of(0, 0)", x.of(0, 0), NONE);
        due.is("put(0, 0)", x.put(0, 0), NONE);
        due.is("at(0, 0)", x.at(0, 0), NONE);
        due.is("trace(0)", x.trace(0), NONE);
        due.is("undo()", x.undo(), STATE);
    }

    /** "Nothing is there": what is worked out of nothing told. */
    static void promise01_nothingIsTold() {
        LowWater x = new LowWater();
        due.is("waits()", x.waits(), 0);
        due.is("change()", x.change(), NEVER);
        due.is("stood()", x.stood(), 511);
        due.is("looked()", x.looked(), NEVER);
        due.is("force(6)", x.force(6), 0);
    }

    /** "no CAVE": "without one there are no CLAUSES". */
    static void promise01_noCave() {
        LowWater x = new LowWater();
        int[] levels = {6, 5, 4, 3, 2, 1, 0, 1, 2, 3, 4, 5};
        for (int k = 0; k <= 60; k++) {
            due.is("level(" + k + ")", x.level(k), levels[k % 12]);
        }
        due.is("told(2)", x.told(2), 0);
    }

    /** "HOUR: .. (0 at first)". */
    static void promise01_hourIs0AtFirst() {
        due.is("told(0)", new LowWater().told(0), 0);
    }

    /** "Nothing is there" in a second object either. */
    static void promise01_objectsShareNothing() {
        Make.full();
        LowWater x = new LowWater();
        due.same("another object's calls", Make.look(x), Make.look(new LowWater()));
        due.is("undo()", x.undo(), STATE);
    }

    // ---- promise 2

    /** "A sign (0 .. 127)": too small. */
    static void promise02_signTooSmall() {
        LowWater x = new LowWater();
        due.is("feed(-1)", x.feed(-1), BAD);
        due.is("feed(LOW)", x.feed(LOW), BAD);
    }

    /** "A sign (0 .. 127)": the least. */
    static void promise02_leastSign() {
        due.is("feed(0)", new LowWater().feed(0), 1);
    }

    /** "A sign (0 .. 127)": the greatest. */
    static void promise02_greatestSign() {
        due.is("feed(127)", new LowWater().feed(127), 1);
    }

    /** "A sign (0 .. 127)": too large. */
    static void promise02_signTooLarge() {
        LowWater x = new LowWater();
        due.is("feed(128)", x.feed(128), BAD);
        due.is("feed(256 + 's')", x.feed(256 + 's'), BAD);
        due.is("feed(HIGH)", x.feed(HIGH), BAD);
    }

    /** "how many it has": from the first one on. */
    static void promise02_howManyItHas() {
        LowWater x = new LowWater();
        for (int n = 1; n <= 100; n++) {
            due.is("feed(59)", x.feed(59), n);
        }
    }

    /** "100 at most"; "FULL". */
    static void promise02_tapeIsFull() {
        LowWater x = new LowWater();
        for (int n = 1; n <= 99; n++) {
            x.feed(59);
        }
        due.is("feed(59), the 100th", x.feed(59), 100);
        due.is("feed(59), the 101st", x.feed(59), FULL);
        due.is("count(6)", x.count(6), 100);
    }

    /** "of several the first one told": BAD ahead of FULL. */
    static void promise02_badAheadOfFull() {
        LowWater x = Make.full();
        due.is("feed(-1)", x.feed(-1), BAD);
        due.is("feed(128)", x.feed(128), BAD);
        due.is("feed(127)", x.feed(127), FULL);
    }

    /** "They change nothing": a sign that is refused does not come. */
    static void promise02_badChangesNothing() {
        LowWater x = new LowWater();
        Make.feed(x, "ebb 9 h<");
        x.feed(-1);
        x.feed(128);
        due.is("count(6)", x.count(6), 8);
        due.is("feed('7')", x.feed('7'), 9);
        due.is("cave()", x.cave(), 0);
        due.is("told(1)", x.told(1), 0);
    }

    /** "They change nothing": what stands on THE TAPE stays. */
    static void promise02_fullChangesNothing() {
        LowWater x = new LowWater();
        Make.feed(x, "ebb 1 h<7;ebb 1 h<7;ebb 1 h<7;ebb 1 h<7;ebb 1 h<7;ebb 1 h<7;ebb 1 h=7;ebb 1 h=7;ebb 1 h=7;ebb 10 h=7");
        due.is("count(6)", x.count(6), 100);
        due.is("feed('x')", x.feed('x'), FULL);
        due.is("cave()", x.cave(), 0);
        due.is("told(1)", x.told(1), 0);
        due.is("level(1)", x.level(1), 0);
        due.is("level(8)", x.level(8), 2);
    }

    // ---- promise 3: the text

    /** "A CAVE is read from THE TAPE", which is empty: it ends too early. */
    static void promise03_emptyTape() {
        faultAt(0, "");
    }

    /** "bytes, 100 at most": a CAVE may have all of them. */
    static void promise03_caveOf100Bytes() {
        isCave("ebb 1 h<7;ebb 1 h<7;ebb 1 h<7;ebb 1 h<7;ebb 1 h<7;ebb 1 h<7;ebb 1 h=7;ebb 1 h=7;ebb 1 h=7;ebb 10 h=7");
        isCave("swell 10 h<7|h=8|h=9|h=10|d=11|d=12|d=13|h=1|h=2|h=3|h=4|h=5|h=6|d=7|d=8|d=9|m=0|m=1|m=2|m=3|m=4|h=0");
    }

    /** "CLAUSES, 10 at most". */
    static void promise03_tenClauses() {
        isCave("ebb 1 h=1;ebb 1 h=1;ebb 1 h=1;ebb 1 h=1;ebb 1 h=1;ebb 1 h=1;ebb 1 h=1;ebb 1 h=1;ebb 1 h=1;ebb 1 h=1");
    }

    /** "CLAUSES, 10 at most": with an eleventh no CAVE goes on, from the ; on. */
    static void promise03_elevenClauses() {
        String ten = "ebb 1 h=1;ebb 1 h=1;ebb 1 h=1;ebb 1 h=1;ebb 1 h=1;ebb 1 h=1;ebb 1 h=1;ebb 1 h=1;ebb 1 h=1;ebb 1 h=1";
        faultAt(99, ten + ";");
    }

    /** "with ; between": none at the end, none ahead, no two. */
    static void promise03_semicolonsBetween() {
        isCave("ebb 1 h=1;wave 1 h=1;swell 1 h=1");
        faultAt(10, "ebb 1 h=1;");
        faultAt(0, ";ebb 1 h=1");
        faultAt(10, "ebb 1 h=1;;ebb 1 h=1");
        faultAt(9, "ebb 1 h=1 ebb 1 h=1");
        faultAt(9, "ebb 1 h=1,ebb 1 h=1");
        faultAt(9, "ebb 1 h=1ebb 1 h=1");
    }

    /** "swell n E; ebb n E; wave n E": no other word, none cut short, none in capitals. */
    static void promise03_words() {
        isCave("swell 1 h=1");
        isCave("ebb 1 h=1");
        isCave("wave 1 h=1");
        faultAt(0, "tide 1 h=1");
        faultAt(0, "Swell 1 h=1");
        faultAt(0, "1 h=1");
        faultAt(1, "sWell 1 h=1");
        faultAt(1, "sea 1 h=1");
        faultAt(4, "swel 1 h=1");
        faultAt(5, "swells 1 h=1");
        faultAt(2, "eb 1 h=1");
        faultAt(3, "ebbb 1 h=1");
        faultAt(3, "wav 1 h=1");
        faultAt(4, "waves 1 h=1");
        faultAt(10, "ebb 1 h=1;tide 1 h=1");
    }

    /** "one blank ahead of each part behind the word": of n. */
    static void promise03_oneBlankAheadOfN() {
        faultAt(3, "ebb1 h=1");
        faultAt(4, "ebb  1 h=1");
        faultAt(3, "ebb\t1 h=1");
        faultAt(4, "ebb h=1");
    }

    /** "one blank ahead of each part behind the word": of E. */
    static void promise03_oneBlankAheadOfE() {
        faultAt(5, "ebb 1h=1");
        faultAt(6, "ebb 1  h=1");
        faultAt(6, "ebb 10h=1");
        faultAt(5, "ebb 1");
        faultAt(6, "ebb 1 ");
        faultAt(6, "ebb 1 ;ebb 1 h=1");
    }

    /** "one blank ahead of each part behind the word": none elsewhere. */
    static void promise03_noBlankElsewhere() {
        faultAt(0, " ebb 1 h=1");
        faultAt(9, "ebb 1 h=1 ");
        faultAt(9, "ebb 1 h=1 ;ebb 1 h=1");
        faultAt(10, "ebb 1 h=1; ebb 1 h=1");
        faultAt(7, "ebb 1 h =1");
        faultAt(8, "ebb 1 h= 1");
        faultAt(9, "ebb 1 h=1 |h=2");
        faultAt(10, "ebb 1 h=1| h=2");
        faultAt(10, "ebb 1 h=1& h=2");
        faultAt(7, "ebb 1 ! h=1");
        faultAt(7, "ebb 1 ( h=1)");
        faultAt(10, "ebb 1 (h=1 )");
    }

    /** "n 1 or 2 digits": one, two, none, three. */
    static void promise03_digitsOfN() {
        isCave("ebb 0 h=1");
        isCave("ebb 9 h=1");
        isCave("ebb 10 h=1");
        isCave("ebb 99 h=1");
        faultAt(4, "ebb  h=1");
        faultAt(4, "ebb x h=1");
        faultAt(4, "ebb -1 h=1");
        faultAt(4, "ebb / h=1");
        faultAt(4, "ebb : h=1");
        faultAt(5, "ebb 1/ h=1");
        faultAt(5, "ebb 1: h=1");
        faultAt(6, "ebb 100 h=1");
    }

    /** "no 0 ahead of another": of n. */
    static void promise03_no0AheadInN() {
        faultAt(5, "ebb 00 h=1");
        faultAt(5, "ebb 01 h=1");
        faultAt(5, "ebb 09 h=1");
    }

    /** "a number likewise": the digits of a TEST's. */
    static void promise03_digitsOfATest() {
        isCave("ebb 1 h=0");
        isCave("ebb 1 d<9");
        isCave("ebb 1 m>10");
        isCave("ebb 1 h<99");
        faultAt(8, "ebb 1 h=");
        faultAt(8, "ebb 1 h=x");
        faultAt(8, "ebb 1 h=-1");
        faultAt(8, "ebb 1 h=/");
        faultAt(8, "ebb 1 h=:");
        faultAt(9, "ebb 1 h=1/");
        faultAt(9, "ebb 1 h=1:");
        faultAt(10, "ebb 1 h=100");
    }

    /** "a number likewise": no 0 ahead of another in a TEST. */
    static void promise03_no0AheadInATest() {
        faultAt(9, "ebb 1 h=00");
        faultAt(9, "ebb 1 d<01");
        faultAt(9, "ebb 1 m>09;ebb 1 h=1");
    }

    /** "a TEST: h or d or m, one of < = >". */
    static void promise03_tests() {
        for (char what : new char[] {'h', 'd', 'm'}) {
            for (char sign : new char[] {'<', '=', '>'}) {
                isCave("ebb 1 " + what + sign + "1");
            }
        }
        faultAt(6, "ebb 1 1=h");
        faultAt(6, "ebb 1 H=1");
        faultAt(6, "ebb 1 v=1");
        faultAt(6, "ebb 1 =1");
        faultAt(7, "ebb 1 h");
        faultAt(7, "ebb 1 h1");
        faultAt(7, "ebb 1 hd=1");
        faultAt(7, "ebb 1 h!=1");
        faultAt(7, "ebb 1 h;");
        faultAt(8, "ebb 1 h==1");
        faultAt(8, "ebb 1 h<=1");
        faultAt(8, "ebb 1 h>=1");
    }

    /** "E: T, or T|E": a T on both sides. */
    static void promise03_or() {
        isCave("ebb 1 h=1|h=2|h=3");
        faultAt(6, "ebb 1 |h=1");
        faultAt(10, "ebb 1 h=1|");
        faultAt(10, "ebb 1 h=1|;ebb 1 h=1");
        faultAt(10, "ebb 1 h=1||h=2");
        faultAt(10, "ebb 1 h=1|&h=2");
        faultAt(11, "ebb 1 (h=1|)");
    }

    /** "T: F, or F&T": an F on both sides. */
    static void promise03_and() {
        isCave("ebb 1 h=1&h=2&h=3");
        faultAt(6, "ebb 1 &h=1");
        faultAt(10, "ebb 1 h=1&");
        faultAt(10, "ebb 1 h=1&;ebb 1 h=1");
        faultAt(10, "ebb 1 h=1&&h=2");
        faultAt(10, "ebb 1 h=1&|h=2");
        faultAt(11, "ebb 1 (h=1&)");
    }

    /** "F: !F, (E), or a TEST": nothing behind a !, nothing in ( and ), one of these alone. */
    static void promise03_notAndBrackets() {
        isCave("ebb 1 !h=1");
        isCave("ebb 1 !!h=1");
        isCave("ebb 1 !(h=1|h=2)");
        isCave("ebb 1 (!h=1)");
        faultAt(7, "ebb 1 !");
        faultAt(7, "ebb 1 !;");
        faultAt(7, "ebb 1 !&h=1");
        faultAt(7, "ebb 1 !)");
        faultAt(9, "ebb 1 h=1!");
        faultAt(7, "ebb 1 ()");
        faultAt(7, "ebb 1 (");
        faultAt(10, "ebb 1 (h=1");
        faultAt(10, "ebb 1 (h=1;ebb 1 h=1");
        faultAt(9, "ebb 1 h=1)");
        faultAt(11, "ebb 1 (h=1))");
        faultAt(11, "ebb 1 (h=1)(h=2)");
        faultAt(11, "ebb 1 (h=1)h=2");
        faultAt(9, "ebb 1 h=1(h=2)");
        faultAt(11, "ebb 1 (h=1)!h=2");
    }

    /** "At most 5 of ! and ( are open": of !. */
    static void promise03_openNots() {
        isCave("ebb 1 !!!!!h=1");
        faultAt(11, "ebb 1 !!!!!!h=1");
    }

    /** "At most 5 of ! and ( are open": of (. */
    static void promise03_openBrackets() {
        isCave("ebb 1 (((((h=1)))))");
        faultAt(11, "ebb 1 ((((((h=1))))))");
    }

    /** "At most 5 of ! and ( are open": of both together. */
    static void promise03_openOnesOfBoth() {
        isCave("ebb 1 !(!(!h=1))");
        isCave("ebb 1 (!(!(h=1)))");
        faultAt(11, "ebb 1 !(!(!(h=1)))");
        faultAt(11, "ebb 1 !(!(!!h=1))");
        faultAt(11, "ebb 1 (!(!(!h=1)))");
        faultAt(11, "ebb 1 !!!!!(h=1)");
        faultAt(11, "ebb 1 (((((!h=1)))))");
    }

    /** "a ( till its )": behind it there is room for another one. */
    static void promise03_openTillItsBracket() {
        isCave("ebb 1 (((((h=1)))))&(((((h=2)))))");
        isCave("ebb 1 ((((h=1)&(h=2))))");
        isCave("ebb 1 (((((h=1)&h=2)|(h=3))))");
        isCave("ebb 1 ((((!h=1)&(h=2))))|!!!!!h=3");
        faultAt(15, "ebb 1 (((((h=1|(h=2))))))");
    }

    /** "a ! till its F ends": behind it there is room for another one; a ! ahead of a ( is open till the ). */
    static void promise03_openTillItsFEnds() {
        isCave("ebb 1 !!!!!h=1&!!!!!h=2");
        isCave("ebb 1 !!!!!h=1|!!!!!h=2");
        isCave("ebb 1 ((((!h=1&!h=2))))");
        isCave("ebb 1 ((((!h=1&(h=2)))))");
        isCave("ebb 1 !(((h=1)&!h=2))&!!!!!h=3");
        isCave("ebb 1 !!!!(h=1)&(((((h=2)))))");
        isCave("ebb 1 (!!!!h=1&((((h=2)))))");
        faultAt(17, "ebb 1 !((((h=1)&!!h=2)))");
        faultAt(15, "ebb 1 !((((h=1&!h=2))))");
        faultAt(16, "ebb 1 ((((!h=1&!!h=2))))");
        faultAt(16, "ebb 1 ((((!h=1&!(h=2)))))");
    }

    /** "At most 5 .. are open": in the next CLAUSE there are none. */
    static void promise03_openInTheNextClause() {
        isCave("ebb 1 !!!!!h=1;ebb 1 !!!!!h=1;ebb 1 (((((h=1)))))");
    }

    /** "FAULT: .. (the size, if it ends too early)": of each piece of a CAVE that is none. */
    static void promise03_endsTooEarly() {
        String text = "swell 12 h<3&!(d=1|m>4);ebb 7 h=10";
        for (int size = 0; size <= text.length(); size++) {
            // whole are: .. h<3, .. ), .. h=1, .. h=10
            boolean whole = size == 12 || size == 23 || size == 33 || size == 34;
            if (whole) {
                isCave(text.substring(0, size));
            } else {
                faultAt(size, text.substring(0, size));
            }
        }
    }

    /** "the place of the first byte with which no CAVE can go on": what stands behind it does not matter. */
    static void promise03_firstOfTwoFaults() {
        faultAt(5, "ebb 01 h==1;;");
        faultAt(0, ";;");
        faultAt(9, "ebb 1 h=1))");
        faultAt(7, "ebb 1 !&&");
    }

    /** "bytes": 0 and 127 are bytes with which no CAVE goes on. */
    static void promise03_bytesAtTheEnds() {
        faultAt(0, "\0");
        faultAt(9, "ebb 1 h=1\0");
        faultAt(9, "ebb 1 h=1\177");
    }

    // ---- promise 3: what cave() does

    /** "THE TAPE, which is empty then". */
    static void promise03_tapeIsEmptyThen() {
        LowWater x = Make.under("ebb 1 h=1");
        due.is("count(6)", x.count(6), 0);
        due.is("feed('e')", x.feed('e'), 1);
        due.is("cave()", x.cave(), -11);
    }

    /** "(by a FAULT, too)". */
    static void promise03_tapeIsEmptyByAFault() {
        LowWater x = new LowWater();
        due.is("cave", Make.cave(x, "ebb 1 h=1;x"), -20);
        due.is("count(6)", x.count(6), 0);
        due.is("cave", Make.cave(x, "ebb 1 h=1"), 0);
    }

    /** "(the one that held holds)": by a FAULT, even in a later CLAUSE. */
    static void promise03_byAFaultTheOneThatHeldHolds() {
        LowWater x = Make.under("ebb 2 h<12;wave 4 h<12");
        due.is("told(1)", x.told(1), 4);
        due.is("cave", Make.cave(x, "swell 3 h<12;wave 9 h<12;"), -35);
        due.is("told(1)", x.told(1), 4);
        due.is("level(5)", x.level(5), 0);
        due.is("level(11)", x.level(11), 3);
        due.is("told(2)", x.told(2), 4);
        due.is("cave", Make.cave(x, ""), -10);
        due.is("told(1)", x.told(1), 4);
    }

    /** "(the one that held holds)": without one none holds. */
    static void promise03_byAFaultWithoutACaveNoneHolds() {
        LowWater x = new LowWater();
        due.is("cave", Make.cave(x, "swell 3 h<12;"), -23);
        due.is("told(1)", x.told(1), 6);
        due.is("level(1)", x.level(1), 5);
    }

    /** "CAVES are numbered from 0 on": a FAULT takes no number. */
    static void promise03_numbersFrom0() {
        LowWater x = new LowWater();
        due.is("cave", Make.cave(x, "ebb"), -13);
        due.is("cave", Make.cave(x, "ebb 1 h=1"), 0);
        due.is("cave", Make.cave(x, "ebb 1 h=01"), -19);
        due.is("cave", Make.cave(x, "ebb 1 h=1"), 1);
        due.is("count(2)", x.count(2), 2);
    }

    /** "5 at most"; "FULL". */
    static void promise03_fiveCaves() {
        LowWater x = new LowWater();
        for (int number = 0; number < 5; number++) {
            due.is("cave", Make.cave(x, "ebb 1 h=1"), number);
        }
        due.is("cave", Make.cave(x, "ebb 1 h=1"), FULL);
        due.is("count(2)", x.count(2), 5);
    }

    /** "FULL (ahead of all": of an empty TAPE and of any FAULT. */
    static void promise03_fullAheadOfAFault() {
        LowWater x = new LowWater();
        for (int number = 0; number < 5; number++) {
            Make.cave(x, "ebb 1 h=1");
        }
        due.is("cave()", x.cave(), FULL);
        x.feed('x');
        due.is("cave()", x.cave(), FULL);
    }

    /** "THE TAPE stays)", and the CAVE that held. */
    static void promise03_fullLeavesTheTape() {
        LowWater x = new LowWater();
        for (int number = 0; number < 4; number++) {
            Make.cave(x, "ebb 2 h<12");
        }
        x.image();
        Make.cave(x, "ebb 3 h<12");
        Make.feed(x, "ebb 4 h<12");
        due.is("cave()", x.cave(), FULL);
        due.is("count(6)", x.count(6), 10);
        due.is("told(1)", x.told(1), 3);
        due.is("feed('|')", x.feed('|'), 11);
        due.is("cave()", x.cave(), FULL);
        due.is("count(6)", x.count(6), 11);
    }

    /** "the newest one holds": none of the CLAUSES ahead, also of a longer CAVE. */
    static void promise03_theNewestOneHolds() {
        LowWater x = Make.under("ebb 2 h<12;wave 4 h<12;ebb 1 h>0");
        due.is("told(1)", x.told(1), 4);
        due.is("cave", Make.cave(x, "swell 1 h=0"), 1);
        due.is("told(1)", x.told(1), 7);
        due.is("level(1)", x.level(1), 5);
        due.is("told(2)", x.told(2), 0);
        due.is("cave", Make.cave(x, "wave 1 h=0"), 2);
        due.is("told(1)", x.told(1), 6);
        due.is("told(2)", x.told(2), 1);
    }

    /** "is a CAVE, and holds": from now on, also for what was told ahead of it. */
    static void promise03_holdsForWhatWasTold() {
        LowWater x = Make.slates(Make.readers(new LowWater(), 0, 0), 0, 1);
        x.ask(0, 0, 0);
        x.tale(0, 0, 0);
        x.see(0, true);
        due.is("waits()", x.waits(), 7);
        due.is("looked()", x.looked(), 0);
        due.is("stood()", x.stood(), 0x1C0);
        Make.cave(x, "ebb 9 h<12");
        due.is("waits()", x.waits(), 1);
        due.is("looked()", x.looked(), NEVER);
        due.is("stood()", x.stood(), 511);
    }

    // ---- promises 4 to 6

    /** "SHELVES 0 .. 8": too small. "NONE: shelf". */
    static void promise04_shelfTooSmall() {
        LowWater x = new LowWater();
        due.is("slate(-1, 1)", x.slate(-1, 1), NONE);
        due.is("slate(LOW, 1)", x.slate(LOW, 1), NONE);
    }

    /** "SHELVES 0 .. 8": the ends. */
    static void promise04_shelvesAtTheEnds() {
        LowWater x = new LowWater();
        due.is("slate(0, 1)", x.slate(0, 1), 0);
        due.is("slate(8, 1)", x.slate(8, 1), 1);
        due.is("of(0, 0)", x.of(0, 0), 0);
        due.is("of(1, 0)", x.of(1, 0), 8);
    }

    /** "SHELVES 0 .. 8": too large. */
    static void promise04_shelfTooLarge() {
        LowWater x = new LowWater();
        due.is("slate(9, 1)", x.slate(9, 1), NONE);
        due.is("slate(HIGH, 1)", x.slate(HIGH, 1), NONE);
    }

    /** "LINES (1 .. 4)": too small. "BAD: lines". */
    static void promise04_linesTooFew() {
        LowWater x = new LowWater();
        due.is("slate(0, 0)", x.slate(0, 0), BAD);
        due.is("slate(0, -1)", x.slate(0, -1), BAD);
        due.is("slate(0, LOW)", x.slate(0, LOW), BAD);
    }

    /** "LINES (1 .. 4)": the ends. */
    static void promise04_linesAtTheEnds() {
        LowWater x = new LowWater();
        due.is("slate(0, 1)", x.slate(0, 1), 0);
        due.is("slate(0, 4)", x.slate(0, 4), 1);
        due.is("of(0, 1)", x.of(0, 1), 1);
        due.is("of(1, 1)", x.of(1, 1), 4);
    }

    /** "LINES (1 .. 4)": too large. */
    static void promise04_linesTooMany() {
        LowWater x = new LowWater();
        due.is("slate(0, 5)", x.slate(0, 5), BAD);
        due.is("slate(0, HIGH)", x.slate(0, HIGH), BAD);
    }

    /** "SLATES are numbered from 0 on, 6 at most"; "FULL". */
    static void promise04_sixSlates() {
        LowWater x = new LowWater();
        for (int number = 0; number < 6; number++) {
            due.is("slate(1, 1)", x.slate(1, 1), number);
        }
        due.is("slate(1, 1), the 7th", x.slate(1, 1), FULL);
        due.is("count(0)", x.count(0), 6);
    }

    /** "of several the first one told": NONE, BAD, FULL. */
    static void promise04_refusalsInTheirOrder() {
        LowWater x = new LowWater();
        due.is("slate(9, 0)", x.slate(9, 0), NONE);
        due.is("slate(-1, 5)", x.slate(-1, 5), NONE);
        x = Make.full();
        due.is("slate(9, 5)", x.slate(9, 5), NONE);
        due.is("slate(-1, 1)", x.slate(-1, 1), NONE);
        due.is("slate(8, 5)", x.slate(8, 5), BAD);
        due.is("slate(8, 0)", x.slate(8, 0), BAD);
    }

    /** "They change nothing". */
    static void promise04_refusedChangesNothing() {
        LowWater x = Make.full();
        String was = Make.look(x);
        x.slate(9, 1);
        x.slate(1, 5);
        x.slate(1, 1);
        due.same("slate, refused,", Make.look(x), was);
    }

    /** "NONE": no such SLATE. */
    static void promise05_noSuchSlate() {
        LowWater x = Make.slates(new LowWater(), 3, 2, 4, 3);
        due.is("of(-1, 0)", x.of(-1, 0), NONE);
        due.is("of(1, 0)", x.of(1, 0), 4);
        due.is("of(2, 0)", x.of(2, 0), NONE);
        due.is("of(LOW, 1)", x.of(LOW, 1), NONE);
        due.is("of(HIGH, 1)", x.of(HIGH, 1), NONE);
    }

    /** "what 0 SHELF, 1 LINES": no other. */
    static void promise05_noSuchWhat() {
        LowWater x = Make.slates(new LowWater(), 3, 2);
        due.is("of(0, -1)", x.of(0, -1), NONE);
        due.is("of(0, 0)", x.of(0, 0), 3);
        due.is("of(0, 1)", x.of(0, 1), 2);
        due.is("of(0, 2)", x.of(0, 2), NONE);
        due.is("of(0, LOW)", x.of(0, LOW), NONE);
        due.is("of(0, HIGH)", x.of(0, HIGH), NONE);
    }

    /** "NONE": no such SLATE to be put. */
    static void promise06_noSuchSlate() {
        LowWater x = Make.slates(new LowWater(), 3, 2, 4, 3);
        due.is("put(-1, 0)", x.put(-1, 0), NONE);
        due.is("put(2, 0)", x.put(2, 0), NONE);
        due.is("put(LOW, 0)", x.put(LOW, 0), NONE);
        due.is("put(HIGH, 0)", x.put(HIGH, 0), NONE);
        due.is("put(1, 0)", x.put(1, 0), 4);
    }

    /** "NONE": no such SHELF. */
    static void promise06_noSuchShelf() {
        LowWater x = Make.slates(new LowWater(), 3, 2);
        due.is("put(0, -1)", x.put(0, -1), NONE);
        due.is("put(0, 9)", x.put(0, 9), NONE);
        due.is("put(0, LOW)", x.put(0, LOW), NONE);
        due.is("put(0, HIGH)", x.put(0, HIGH), NONE);
    }

    /** "A SLATE comes to a SHELF: where it was": to the ends, and to where it is. */
    static void promise06_shelvesAtTheEnds() {
        LowWater x = Make.slates(new LowWater(), 3, 2, 4, 3);
        due.is("put(0, 0)", x.put(0, 0), 3);
        due.is("put(0, 8)", x.put(0, 8), 0);
        due.is("put(0, 8)", x.put(0, 8), 8);
        due.is("of(0, 0)", x.of(0, 0), 8);
        due.is("of(0, 1)", x.of(0, 1), 2);
        due.is("of(1, 0)", x.of(1, 0), 4);
    }

    /** Two SLATES may be on one SHELF. */
    static void promise06_aShelfHoldsMore() {
        LowWater x = Make.slates(new LowWater(), 3, 2, 4, 3);
        due.is("put(0, 4)", x.put(0, 4), 3);
        due.is("of(0, 0)", x.of(0, 0), 4);
        due.is("of(1, 0)", x.of(1, 0), 4);
    }

    /** "They change nothing". */
    static void promise06_refusedChangesNothing() {
        LowWater x = Make.full();
        String was = Make.look(x);
        x.put(6, 1);
        x.put(-1, 1);
        x.put(0, 9);
        x.put(0, -1);
        due.same("put, refused,", Make.look(x), was);
    }

    // ---- promises 7 to 9

    /** "each of a KIND: 0 .. 6": too small, too large. "NONE: kind". */
    static void promise07_noSuchKind() {
        LowWater x = new LowWater();
        due.is("reader(-1, 0)", x.reader(-1, 0), NONE);
        due.is("reader(7, 0)", x.reader(7, 0), NONE);
        due.is("reader(LOW, 0)", x.reader(LOW, 0), NONE);
        due.is("reader(HIGH, 0)", x.reader(HIGH, 0), NONE);
    }

    /** "each of a KIND: 0 .. 6": the ends, and all between. */
    static void promise07_kinds() {
        for (int kind = 0; kind <= 6; kind++) {
            LowWater x = new LowWater();
            due.is("reader(" + kind + ", 1)", x.reader(kind, 1), 0);
            due.is("at(0, 0)", x.at(0, 0), kind);
        }
    }

    /** "a number v (0 .. 9)": too small. "BAD: v". */
    static void promise07_vTooSmall() {
        LowWater x = new LowWater();
        due.is("reader(0, -1)", x.reader(0, -1), BAD);
        due.is("reader(0, LOW)", x.reader(0, LOW), BAD);
    }

    /** "a number v (0 .. 9)": the ends. */
    static void promise07_vAtTheEnds() {
        LowWater x = new LowWater();
        due.is("reader(2, 0)", x.reader(2, 0), 0);
        due.is("reader(2, 9)", x.reader(2, 9), 1);
        due.is("at(0, 1)", x.at(0, 1), 0);
        due.is("at(1, 1)", x.at(1, 1), 9);
    }

    /** "a number v (0 .. 9)": too large. */
    static void promise07_vTooLarge() {
        LowWater x = new LowWater();
        due.is("reader(0, 10)", x.reader(0, 10), BAD);
        due.is("reader(0, HIGH)", x.reader(0, HIGH), BAD);
    }

    /** "READERS are numbered from 0 on, 4 at most"; "FULL". */
    static void promise07_fourReaders() {
        LowWater x = new LowWater();
        for (int number = 0; number < 4; number++) {
            due.is("reader(1, 1)", x.reader(1, 1), number);
        }
        due.is("reader(1, 1), the 5th", x.reader(1, 1), FULL);
        due.is("count(1)", x.count(1), 4);
    }

    /** "of several the first one told": NONE, BAD, FULL. */
    static void promise07_refusalsInTheirOrder() {
        LowWater x = new LowWater();
        due.is("reader(7, 10)", x.reader(7, 10), NONE);
        due.is("reader(-1, -1)", x.reader(-1, -1), NONE);
        x = Make.full();
        due.is("reader(7, 10)", x.reader(7, 10), NONE);
        due.is("reader(-1, 1)", x.reader(-1, 1), NONE);
        due.is("reader(6, 10)", x.reader(6, 10), BAD);
        due.is("reader(0, -1)", x.reader(0, -1), BAD);
    }

    /** "They change nothing". */
    static void promise07_refusedChangesNothing() {
        LowWater x = Make.full();
        String was = Make.look(x);
        x.reader(7, 1);
        x.reader(1, 10);
        x.reader(1, 1);
        due.same("reader, refused,", Make.look(x), was);
    }

    /** "NONE": no such READER. */
    static void promise08_noSuchReader() {
        LowWater x = Make.readers(new LowWater(), 3, 2, 4, 7);
        due.is("at(-1, 0)", x.at(-1, 0), NONE);
        due.is("at(1, 0)", x.at(1, 0), 4);
        due.is("at(2, 0)", x.at(2, 0), NONE);
        due.is("at(LOW, 1)", x.at(LOW, 1), NONE);
        due.is("at(HIGH, 1)", x.at(HIGH, 1), NONE);
        due.is("at(4, 0) of 4", Make.full().at(4, 0), NONE);
    }

    /** "what 0 KIND, 1 v": no other. */
    static void promise08_noSuchWhat() {
        LowWater x = Make.readers(new LowWater(), 3, 2);
        due.is("at(0, -1)", x.at(0, -1), NONE);
        due.is("at(0, 0)", x.at(0, 0), 3);
        due.is("at(0, 1)", x.at(0, 1), 2);
        due.is("at(0, 2)", x.at(0, 2), NONE);
        due.is("at(0, LOW)", x.at(0, LOW), NONE);
        due.is("at(0, HIGH)", x.at(0, HIGH), NONE);
    }

    private static void needs(int kind, int v, int... want) {
        LowWater x = Make.slates(Make.readers(new LowWater(), kind, v), 0, 1, 0, 2, 0, 3, 0, 4);
        for (int slate = 0; slate < 4; slate++) {
            due.is("needs of KIND " + kind + ", v " + v + ", LINES " + (slate + 1), x.needs(0, slate), want[slate]);
        }
    }

    /** "READER, DIVER, ROWED, WAITING: its LINES", whatever v is. */
    static void promise09_itsLines() {
        for (int kind : new int[] {0, 2, 3, 6}) {
            needs(kind, 0, 1, 2, 3, 4);
            needs(kind, 9, 1, 2, 3, 4);
        }
    }

    /** "FAST: the half of these, rounded up". */
    static void promise09_halfRoundedUp() {
        needs(1, 0, 1, 1, 2, 2);
        needs(1, 9, 1, 1, 2, 2);
    }

    /** "QUICK: as FAST, 1 less, if v is above 4": 4 is not, 5 is. */
    static void promise09_quickAbove4() {
        needs(4, 0, 1, 1, 2, 2);
        needs(4, 4, 1, 1, 2, 2);
        needs(4, 5, 1, 1, 1, 1);
        needs(4, 9, 1, 1, 1, 1);
    }

    /** "(1 at least)". */
    static void promise09_quickNeedsOneAtLeast() {
        LowWater x = Make.slates(Make.readers(new LowWater(), 4, 9), 0, 1, 0, 2);
        due.is("needs(0, 0)", x.needs(0, 0), 1);
        due.is("needs(0, 1)", x.needs(0, 1), 1);
    }

    /** "BLIND: twice its LINES". */
    static void promise09_blindTwice() {
        needs(5, 0, 2, 4, 6, 8);
        needs(5, 9, 2, 4, 6, 8);
    }

    /** "NONE": no such READER, no such SLATE. */
    static void promise09_noSuch() {
        LowWater x = Make.slates(Make.readers(new LowWater(), 0, 0, 1, 1), 3, 2, 4, 3, 5, 4);
        due.is("needs(1, 2)", x.needs(1, 2), 2);
        due.is("needs(-1, 0)", x.needs(-1, 0), NONE);
        due.is("needs(2, 0)", x.needs(2, 0), NONE);
        due.is("needs(0, -1)", x.needs(0, -1), NONE);
        due.is("needs(0, 3)", x.needs(0, 3), NONE);
        due.is("needs(LOW, LOW)", x.needs(LOW, LOW), NONE);
        due.is("needs(HIGH, HIGH)", x.needs(HIGH, HIGH), NONE);
        due.is("needs(4, 6) of all", Make.full().needs(4, 6), NONE);
    }

    // ---- promise 10

    /** "n (0 .. 60)": too small. "BAD". */
    static void promise10_tooFewHours() {
        LowWater x = new LowWater();
        due.is("hours(-1)", x.hours(-1), BAD);
        due.is("hours(LOW)", x.hours(LOW), BAD);
        due.is("told(0)", x.told(0), 0);
    }

    /** "n (0 .. 60)": the ends. */
    static void promise10_hoursAtTheEnds() {
        LowWater x = new LowWater();
        due.is("hours(0)", x.hours(0), 0);
        due.is("hours(60)", x.hours(60), 60);
        due.is("hours(0)", x.hours(0), 60);
    }

    /** "n (0 .. 60)": too large. */
    static void promise10_tooManyHours() {
        LowWater x = new LowWater();
        due.is("hours(61)", x.hours(61), BAD);
        due.is("hours(HIGH)", x.hours(HIGH), BAD);
        due.is("told(0)", x.told(0), 0);
    }

    /** "STATE: it would be above 9999": 9999 is not. */
    static void promise10_to9999() {
        LowWater x = Make.go(new LowWater(), 9939);
        due.is("hours(60)", x.hours(60), 9999);
        due.is("hours(0)", x.hours(0), 9999);
    }

    /** "STATE: it would be above 9999". */
    static void promise10_above9999() {
        LowWater x = Make.go(new LowWater(), 9940);
        due.is("hours(60)", x.hours(60), STATE);
        due.is("hours(59)", x.hours(59), 9999);
        due.is("hours(1)", x.hours(1), STATE);
        due.is("hours(60)", x.hours(60), STATE);
    }

    /** "of several the first one told": BAD ahead of STATE. */
    static void promise10_badAheadOfState() {
        LowWater x = Make.go(new LowWater(), 9999);
        due.is("hours(61)", x.hours(61), BAD);
        due.is("hours(-1)", x.hours(-1), BAD);
        due.is("hours(HIGH)", x.hours(HIGH), BAD);
        due.is("hours(LOW)", x.hours(LOW), BAD);
    }

    /** "They change nothing". */
    static void promise10_refusedChangesNothing() {
        LowWater x = Make.go(Make.library(), 9998);
        String was = Make.look(x);
        due.is("hours(2)", x.hours(2), STATE);
        due.is("hours(-1)", x.hours(-1), BAD);
        due.is("hours(61)", x.hours(61), BAD);
        due.same("hours, refused,", Make.look(x), was);
        due.is("hours(1)", x.hours(1), 9999);
    }

    // ---- promises 11, 12

    /** "What 0 HOUR, 1 LEVEL now, 2 WAVE now": no other. */
    static void promise11_noSuchWhat() {
        LowWater x = Make.go(Make.under("wave 3 h=1"), 1);
        due.is("told(-1)", x.told(-1), NONE);
        due.is("told(0)", x.told(0), 1);
        due.is("told(1)", x.told(1), 5);
        due.is("told(2)", x.told(2), 3);
        due.is("told(3)", x.told(3), NONE);
        due.is("told(LOW)", x.told(LOW), NONE);
        due.is("told(HIGH)", x.told(HIGH), NONE);
    }

    /** "LEVEL ..; 0 .. 9, else the bound": above. */
    static void promise11_levelAbove9() {
        level("swell 2 h=0", 0, 8);
        level("swell 3 h=0", 0, 9);
        level("swell 4 h=0", 0, 9);
        level("swell 99 h=0;swell 99 h<12", 0, 9);
    }

    /** "LEVEL ..; 0 .. 9, else the bound": below. */
    static void promise11_levelBelow0() {
        level("ebb 5 h=0", 0, 1);
        level("ebb 6 h=0", 0, 0);
        level("ebb 7 h=0", 0, 0);
        level("ebb 99 h=0;ebb 99 h<12", 0, 0);
    }

    /** "together; 0 .. 9, else the bound": the bound is of all of it, not of what comes between. */
    static void promise11_boundOfAllTogether() {
        level("swell 99 h=0;ebb 98 h=0", 0, 7);
        level("ebb 99 h=0;swell 98 h=0", 0, 5);
        level("swell 9 h=0;ebb 8 h=0;swell 1 h=0", 0, 8);
    }

    /** "how far it modulo 12 is from 6": on both sides, and again from HOUR 12 on. */
    static void promise11_howFarFrom6() {
        int[] levels = {6, 5, 4, 3, 2, 1, 0, 1, 2, 3, 4, 5};
        LowWater x = new LowWater();
        for (int hour = 0; hour < 30; hour++) {
            due.is("told(1) at HOUR " + hour, x.told(1), levels[hour % 12]);
            x.hours(1);
        }
    }

    /** "WAVE ..: together, 10 at most". */
    static void promise11_waveAbove10() {
        wave("wave 9 h=0", 0, 9);
        wave("wave 10 h=0", 0, 10);
        wave("wave 11 h=0", 0, 10);
        wave("wave 6 h=0;wave 3 h=0", 0, 9);
        wave("wave 6 h=0;wave 4 h=0", 0, 10);
        wave("wave 6 h=0;wave 5 h=0", 0, 10);
        wave("wave 99 h=0;wave 99 h=0", 0, 10);
    }

    /** "WAVE: the n of all wave whose E holds": 0, if none does; none is of LEVEL, no swell of WAVE. */
    static void promise11_waveOfNone() {
        wave("wave 9 h=1", 0, 0);
        wave("wave 0 h=0", 0, 0);
        wave("swell 9 h=0;ebb 9 h=0", 0, 0);
        level("wave 9 h=0", 0, 6);
    }

    /** "h it modulo 12": wraps around at HOUR 12. */
    static void promise11_hWrapsAround() {
        level("swell 3 h=0", 11, 5);
        level("swell 3 h=0", 12, 9);
        level("swell 3 h=11", 11, 8);
        level("swell 3 h=11", 23, 8);
        level("swell 3 h=12", 12, 6);
        level("swell 3 h>11", 11, 5);
    }

    /** "d it by 12 (cut) modulo 14": the next one at HOUR 12, around at HOUR 168. */
    static void promise11_dWrapsAround() {
        level("swell 3 d=0", 11, 8);
        level("swell 3 d=0", 12, 6);
        level("swell 3 d=1", 11, 5);
        level("swell 3 d=1", 12, 9);
        level("swell 3 d=13", 155, 5);
        level("swell 3 d=13", 156, 9);
        level("swell 3 d=13", 167, 8);
        level("swell 3 d=13", 168, 6);
        level("swell 3 d=0", 167, 5);
        level("swell 3 d=0", 168, 9);
        level("swell 3 d=14", 168, 6);
        level("swell 3 d>13", 167, 5);
    }

    /** "m it modulo 5": wraps around at HOUR 5. */
    static void promise11_mWrapsAround() {
        level("swell 3 m=0", 4, 2);
        level("swell 3 m=0", 5, 4);
        level("swell 3 m=4", 4, 5);
        level("swell 3 m=4", 9, 6);
        level("swell 3 m=5", 5, 1);
        level("swell 3 m>4", 4, 2);
    }

    /** "one of < = >": neither < nor > at the number itself. */
    static void promise11_signsAtTheNumber() {
        level("swell 1 h<1", 0, 7);
        level("swell 1 h<1", 1, 5);
        level("swell 1 h>1", 1, 5);
        level("swell 1 h>1", 2, 5);
        level("swell 1 h=1", 0, 6);
        level("swell 1 h=1", 1, 6);
        level("swell 1 h=1", 2, 4);
        level("swell 1 h<0", 0, 6);
        level("swell 1 h>0", 0, 6);
        level("swell 1 h=0", 0, 7);
        level("swell 1 h<99", 11, 6);
        level("swell 1 h>99", 11, 5);
    }

    /** "h or d or m, one of < = >": each by each, at 1 below the number, at it, at 1 above. */
    static void promise11_eachTestAtItsNumber() {
        int[] hours = {13, 14, 15, 23, 24, 36, 61, 62, 63};
        char[] whats = {'h', 'h', 'h', 'd', 'd', 'd', 'm', 'm', 'm'};
        for (int i = 0; i < 9; i++) {
            int plain = Math.abs(hours[i] % 12 - 6);
            for (int sign = 0; sign < 3; sign++) {
                int want = plain + (i % 3 == sign ? 2 : 0);
                level("swell 2 " + whats[i] + "<=>".charAt(sign) + "2", hours[i], want);
            }
        }
    }

    /** "h it modulo 12, d .. modulo 14, m it modulo 5": all three are as at HOUR 0 again at HOUR 840, at none ahead. */
    static void promise11_allWrapAround() {
        level("swell 3 h=11&d=13&m=4", 839, 8);
        level("swell 3 h=11&d=13&m=4", 840, 6);
        level("swell 3 h=0&d=0&m=0", 839, 5);
        level("swell 3 h=0&d=0&m=0", 840, 9);
        level("swell 3 h=0&d=0&m=0", 841, 5);
        level("swell 3 h=11&d=13&m=4", 1679, 8);
        wave("wave 3 h=11&d=13&m=4", 839, 3);
        wave("wave 3 h=11&d=13&m=4", 840, 0);
    }

    /** "E: T, or T|E. T: F, or F&T": & binds first; "a ! till its F ends". */
    static void promise11_whatBindsFirst() {
        level("swell 1 h=0|h=0&h=1", 0, 7);
        level("swell 1 h=1&h=0|h=0", 0, 7);
        level("swell 1 (h=0|h=0)&h=1", 0, 6);
        level("swell 1 !h=1|h=0", 0, 7);
        level("swell 1 !(h=1|h=0)", 0, 6);
        level("swell 1 !h=1&h=1", 1, 5);
        level("swell 1 !h=0&h=1", 0, 6);
        level("swell 1 !!h=0", 0, 7);
        level("swell 1 !!!h=0", 0, 6);
        level("swell 1 !!!!!h=0", 0, 6);
        level("swell 1 ((((h=1|h=0))))&h=0", 0, 7);
    }

    /** "k HOURS from now (0 .. 60)": too small. "BAD". */
    static void promise12_kTooSmall() {
        LowWater x = new LowWater();
        due.is("level(-1)", x.level(-1), BAD);
        due.is("level(LOW)", x.level(LOW), BAD);
    }

    /** "k HOURS from now (0 .. 60)": the ends. */
    static void promise12_kAtTheEnds() {
        LowWater x = Make.under("swell 1 h=0&d=0;swell 2 d=5&m=0");
        due.is("level(0)", x.level(0), 7);
        due.is("level(59)", x.level(59), 5);
        due.is("level(60)", x.level(60), 8);
    }

    /** "k HOURS from now (0 .. 60)": too large. */
    static void promise12_kTooLarge() {
        LowWater x = new LowWater();
        due.is("level(61)", x.level(61), BAD);
        due.is("level(HIGH)", x.level(HIGH), BAD);
    }

    /** "goes on from HOUR (beyond 9999, too)": of HOUR 10000 h is 4, d is 7, m is 0; of HOUR 10059 3, 12, 4. */
    static void promise12_beyond9999() {
        LowWater x = Make.go(Make.under("swell 3 d=7&h=4&m=0;swell 2 d=12&h=3&m=4"), 9999);
        due.is("level(0)", x.level(0), 3);
        due.is("level(1)", x.level(1), 5);
        due.is("level(2)", x.level(2), 1);
        due.is("level(59)", x.level(59), 4);
        due.is("level(60)", x.level(60), 5);
    }

    /** "of HOUR n .. LEVEL k HOURS from now": from HOUR, not from 0. */
    static void promise12_fromNow() {
        LowWater x = Make.go(new LowWater(), 4);
        due.is("level(0)", x.level(0), 2);
        due.is("level(2)", x.level(2), 0);
        due.is("level(8)", x.level(8), 6);
        due.is("told(0)", x.told(0), 4);
    }
}
