/** Promises 29 to 34: of each sentence that names an edge (quoted ahead of its test) a test of its own. */
public final class EdgesOfActsTest {
    private static final int NONE = -1, STATE = -3, FULL = -4, NEVER = -5, ANOTHER = -6;
    private static final int LOW = Integer.MIN_VALUE, HIGH = Integer.MAX_VALUE, READS = 0, WAITS = 1, TELLS = 2;
    private static final Due due = new Due();

    public static void main(String[] args) {
        Tests.run(EdgesOfActsTest.class, due);
    }

    /** READERS of that KIND and that v, so many of them, that the last one's number is as wanted. */
    private static LowWater last(int number, int kind, int v) {
        LowWater x = new LowWater();
        for (int i = 0; i < number; i++) {
            x.reader(0, 9);
        }
        x.reader(kind, v);
        return x;
    }

    /** What an ACT of the READER of that KIND, v and number answers, and THE TRACE then. */
    private static void act(int kind, int v, int number, int act, int arg, int want, int... bodies) {
        LowWater x = last(number, kind, v);
        due.is("act(" + number + ", " + act + ", " + arg + ") of KIND " + kind + ", v " + v, x.act(number, act, arg), want);
        trace(x, bodies);
    }

    private static void trace(LowWater x, int... bodies) {
        due.is("count(7)", x.count(7), bodies.length);
        for (int i = 0; i < bodies.length; i++) {
            due.is("trace(" + i + ")", x.trace(i), bodies[i]);
        }
        due.is("trace(" + bodies.length + ")", x.trace(bodies.length), NONE);
    }

    private static void refused(LowWater x, int reader, int act) {
        due.is("act(0, 2, 5)", x.act(0, TELLS, 5), 8);
        due.is("act(" + reader + ", " + act + ", 5)", x.act(reader, act, 5), 0);
        trace(x);
    }

    // ---- promise 29

    /** "ints, wrapping": 1 reads: x + i. */
    static void promise29_body1Wraps() {
        act(0, 0, 0, READS, HIGH, HIGH, 1);
        act(0, 0, 1, READS, HIGH, LOW, 1);
        act(0, 0, 3, READS, HIGH, LOW + 2, 1);
        act(0, 0, 3, READS, LOW, LOW + 3, 1);
    }

    /** "ints, wrapping": 2 waits: reads(x) - v. */
    static void promise29_body2Wraps() {
        act(0, 0, 0, WAITS, LOW, LOW, 2, 1);
        act(0, 1, 0, WAITS, LOW, HIGH, 2, 1);
        act(0, 9, 0, WAITS, LOW, HIGH - 8, 2, 1);
        act(0, 9, 3, WAITS, HIGH, HIGH - 6, 2, 1);
    }

    /** "ints, wrapping": 3 tells: waits(x) * 2. */
    static void promise29_body3Wraps() {
        act(0, 0, 0, TELLS, 1 << 30, LOW, 3, 2, 1);
        act(0, 0, 0, TELLS, LOW, 0, 3, 2, 1);
        act(0, 0, 0, TELLS, HIGH, -2, 3, 2, 1);
        act(0, 1, 0, TELLS, LOW, -2, 3, 2, 1);
    }

    /** "ints, wrapping": 11 reads: super.reads(x * 3). */
    static void promise29_body11Wraps() {
        act(1, 0, 0, READS, 715827882, HIGH - 1, 11, 1);
        act(1, 0, 0, READS, 715827883, LOW + 1, 11, 1);
        act(1, 0, 0, READS, HIGH, HIGH - 2, 11, 1);
        act(1, 0, 0, READS, LOW, LOW, 11, 1);
        act(1, 0, 3, READS, HIGH, LOW, 11, 1);
    }

    /** "ints, wrapping": 21 waits: -super.waits(x). */
    static void promise29_body21Wraps() {
        act(2, 0, 0, WAITS, LOW, LOW, 21, 2, 1);
        act(2, 1, 0, WAITS, LOW, LOW + 1, 21, 2, 1);
        act(2, 0, 0, WAITS, HIGH, LOW + 1, 21, 2, 1);
        act(2, 0, 1, WAITS, HIGH, LOW, 21, 2, 1);
    }

    /** "ints, wrapping": 31 tells: super.tells(x) ^ 7. */
    static void promise29_body31Wraps() {
        act(3, 0, 0, TELLS, LOW, 7, 31, 3, 2, 1);
        act(3, 0, 0, TELLS, 1 << 30, LOW + 7, 31, 3, 2, 1);
        act(3, 0, 0, TELLS, HIGH, -7, 31, 3, 2, 1);
        act(3, 9, 0, TELLS, 0, -23, 31, 3, 2, 1);
    }

    /** "ints, wrapping": 41 tells: super.tells(x - 1) + reads(2). */
    static void promise29_body41Wraps() {
        act(4, 0, 0, TELLS, LOW, 0, 41, 3, 2, 11, 1, 11, 1);
        act(4, 9, 1, TELLS, LOW, -15, 41, 3, 2, 11, 1, 11, 1);
        act(4, 0, 0, TELLS, 357913942, LOW + 4, 41, 3, 2, 11, 1, 11, 1);
        act(4, 0, 3, TELLS, 1, 15, 41, 3, 2, 11, 1, 11, 1);
    }

    /** "ints, wrapping": 51 reads: super.reads(x) ^ i. */
    static void promise29_body51Wraps() {
        act(5, 0, 3, READS, HIGH, LOW + 1, 51, 1);
        act(5, 0, 1, READS, HIGH, LOW + 1, 51, 1);
        act(5, 0, 0, READS, HIGH, HIGH, 51, 1);
        act(5, 0, 2, READS, LOW, LOW, 51, 1);
    }

    /** "ints, wrapping": 61 waits: super.waits(x) + v. */
    static void promise29_body61Wraps() {
        act(6, 9, 0, WAITS, LOW, LOW, 61, 2, 1);
        act(6, 9, 1, WAITS, HIGH, LOW, 61, 2, 1);
        act(6, 0, 0, WAITS, HIGH, HIGH, 61, 2, 1);
    }

    /** "the body of its KIND, or, if that has none, of the next KIND above that has one": each that has none. */
    static void promise29_theNextKindAbove() {
        act(1, 2, 1, WAITS, 5, 14, 2, 11, 1);
        act(1, 2, 1, TELLS, 5, 28, 3, 2, 11, 1);
        act(2, 2, 1, READS, 5, 6, 1);
        act(2, 2, 1, TELLS, 5, -8, 3, 21, 2, 1);
        act(3, 2, 1, READS, 5, 6, 1);
        act(3, 2, 1, WAITS, 5, 4, 2, 1);
        act(4, 2, 1, READS, 5, 16, 11, 1);
        act(4, 2, 1, WAITS, 5, 14, 2, 11, 1);
        act(5, 2, 1, WAITS, 5, -5, 21, 2, 51, 1);
        act(5, 2, 1, TELLS, 5, -10, 3, 21, 2, 51, 1);
        act(6, 2, 1, READS, 5, 6, 1);
        act(6, 2, 1, TELLS, 5, 11, 31, 3, 61, 2, 1);
    }

    /** "super.reads(..): so from the KIND above the body's on": two above, one that has none between. */
    static void promise29_superFromTheKindAboveTheBodys() {
        act(5, 2, 3, READS, 5, 11, 51, 1);
        act(6, 2, 3, WAITS, 5, 8, 61, 2, 1);
        act(4, 2, 3, TELLS, 5, 35, 41, 3, 2, 11, 1, 11, 1);
    }

    /** "i its number": 0, and the last one's. */
    static void promise29_itsNumber() {
        for (int i = 0; i < 4; i++) {
            act(0, 0, i, READS, 10, 10 + i, 1);
        }
    }

    /** "v (0 .. 9)": 0 and 9 in the bodies, the whole of it. */
    static void promise29_vAtTheEnds() {
        act(0, 0, 0, WAITS, 10, 10, 2, 1);
        act(0, 9, 0, WAITS, 10, 1, 2, 1);
        act(2, 9, 0, WAITS, 10, -1, 21, 2, 1);
        act(6, 9, 0, WAITS, 10, 10, 61, 2, 1);
    }

    /** "0, and no TRACE then: no such READER". */
    static void promise29_noSuchReader() {
        LowWater x = Make.library();
        for (int reader : new int[] {LOW, -2, -1, 4, HIGH}) {
            refused(x, reader, READS);
        }
        due.is("act(0, 0, 5) of nothing", new LowWater().act(0, 0, 5), 0);
        due.is("act(4, 0, 5) of all", Make.full().act(4, 0, 5), 0);
    }

    /** "0, and no TRACE then: no such .. act". */
    static void promise29_noSuchAct() {
        LowWater x = Make.library();
        for (int act : new int[] {LOW, -1, 3, HIGH}) {
            refused(x, 0, act);
        }
    }

    /** "0, and no TRACE then": both are no such. */
    static void promise29_neither() {
        LowWater x = Make.library();
        refused(x, 4, 3);
        refused(x, -1, -1);
    }

    /** "REFUSALS ..: They change nothing", but THE TRACE, of which there is none then. */
    static void promise29_refusedChangesNothingElse() {
        LowWater x = Make.library();
        x.act(9, 9, 9);
        String was = Make.look(x);
        x.act(4, 0, 0);
        x.act(0, 3, 0);
        due.same("act that is refused", Make.look(x), was);
    }

    /** "ACTS of a READER": none changes anything but THE TRACE. */
    static void promise29_changesNothingElse() {
        LowWater x = Make.library();
        x.act(0, WAITS, 5);
        String was = Make.look(x);
        x.act(1, TELLS, LOW);
        x.act(2, WAITS, HIGH);
        x.act(0, WAITS, 5);
        due.same("act", Make.look(x), was);
    }

    // ---- promise 30

    /** "NONE": too small. */
    static void promise30_iTooSmall() {
        LowWater x = last(0, 4, 0);
        x.act(0, TELLS, 0);
        due.is("trace(-1)", x.trace(-1), NONE);
        due.is("trace(LOW)", x.trace(LOW), NONE);
    }

    /** "THE TRACE's i-th body": the ends. */
    static void promise30_iAtTheEnds() {
        LowWater x = last(0, 4, 0);
        x.act(0, TELLS, 0);
        due.is("trace(0)", x.trace(0), 41);
        due.is("trace(6)", x.trace(6), 1);
    }

    /** "NONE": behind the last body that ran. */
    static void promise30_behindTheLast() {
        LowWater x = last(0, 4, 0);
        x.act(0, TELLS, 0);
        for (int i : new int[] {7, 8, 19, 20, 21, 100, HIGH}) {
            due.is("trace(" + i + ")", x.trace(i), NONE);
        }
    }

    /** "NONE": ahead of the first act(), and behind one that is refused. */
    static void promise30_noTrace() {
        LowWater x = last(0, 4, 0);
        due.is("trace(0) of no act", x.trace(0), NONE);
        x.act(0, TELLS, 0);
        x.act(1, TELLS, 0);
        due.is("trace(0) of an act that is refused", x.trace(0), NONE);
    }

    /** "in the latest act()": a shorter one leaves none of a longer one ahead. */
    static void promise30_ofTheLatestAct() {
        LowWater x = last(0, 4, 0);
        x.act(0, TELLS, 0);
        x.act(0, READS, 0);
        trace(x, 11, 1);
        x.act(0, WAITS, 0);
        trace(x, 2, 11, 1);
    }

    /** "the first 20 are kept": the longest that there is of each KIND, all kept. */
    static void promise30_theLongest() {
        LowWater x = Make.readers(new LowWater(), 4, 0, 5, 0, 6, 0, 3, 0);
        int[] want = {7, 5, 5, 4};
        for (int reader = 0; reader < 4; reader++) {
            x.act(reader, TELLS, 1);
            due.is("count(7) of reader " + reader, x.count(7), want[reader]);
            due.is("trace of the last", x.trace(want[reader] - 1), 1);
        }
    }

    /** "is asked .. and changes nothing". */
    static void promise30_changesNothing() {
        LowWater x = Make.library();
        String was = Make.look(x);
        x.trace(0);
        x.trace(20);
        x.trace(-1);
        due.same("trace", Make.look(x), was);
    }

    // ---- promise 31

    /** "a KIND k (0 .. 6)": too small. "NONE: .. k". */
    static void promise31_kTooSmall() {
        LowWater x = last(0, 0, 5);
        due.is("as(0, -1)", x.as(0, -1), NONE);
        due.is("as(0, LOW)", x.as(0, LOW), NONE);
    }

    /** "a KIND k (0 .. 6)": the ends. */
    static void promise31_kAtTheEnds() {
        due.is("as(0, 0)", last(0, 6, 5).as(0, 0), 5);
        due.is("as(0, 6)", last(0, 6, 5).as(0, 6), 5);
    }

    /** "a KIND k (0 .. 6)": too large. */
    static void promise31_kTooLarge() {
        LowWater x = last(0, 6, 5);
        due.is("as(0, 7)", x.as(0, 7), NONE);
        due.is("as(0, HIGH)", x.as(0, HIGH), NONE);
    }

    /** "NONE: reader". */
    static void promise31_noSuchReader() {
        LowWater x = last(0, 0, 5);
        for (int reader : new int[] {LOW, -1, 1, 4, HIGH}) {
            due.is("as(" + reader + ", 0)", x.as(reader, 0), NONE);
        }
        due.is("as(4, 0) of all", Make.full().as(4, 0), NONE);
        due.is("as(9, 9)", x.as(9, 9), NONE);
    }

    /** "taken for a KIND k, or one under that": its own, those above it, no other. "-6: it is of another KIND". */
    static void promise31_ofAnotherKind() {
        String[] areIt = {"1000000", "1100000", "1010000", "1001000", "1100100", "1010010", "1001001"};
        for (int kind = 0; kind < 7; kind++) {
            LowWater x = last(0, kind, 5);
            for (int k = 0; k < 7; k++) {
                int want = areIt[kind].charAt(k) == '1' ? 5 : ANOTHER;
                due.is("as(0, " + k + ") of KIND " + kind, x.as(0, k), want);
            }
        }
    }

    /** "its v": 0 and 9; 0 is no refusal. */
    static void promise31_vAtTheEnds() {
        due.is("as(0, 1) of v 0", last(0, 4, 0).as(0, 1), 0);
        due.is("as(0, 1) of v 9", last(0, 4, 9).as(0, 1), 9);
        due.is("as(3, 2) of the last", last(3, 5, 7).as(3, 2), 7);
        due.is("as(2, 0) of the one ahead", last(3, 5, 7).as(2, 0), 9);
    }

    /** "is asked .. and changes nothing". */
    static void promise31_changesNothing() {
        LowWater x = Make.library();
        String was = Make.look(x);
        x.as(1, 1);
        x.as(1, 2);
        x.as(1, 7);
        due.same("as", Make.look(x), was);
    }

    // ---- promise 32

    /** "how many SLATES there are": none. */
    static void promise32_ofNothing() {
        due.is("image()", new LowWater().image(), 0);
    }

    /** "how many SLATES there are": all six. */
    static void promise32_ofAll() {
        due.is("image()", Make.full().image(), 6);
    }

    /** "THE IMAGE": there is one, the newest. */
    static void promise32_theNewest() {
        LowWater x = Make.slates(new LowWater(), 1, 1);
        due.is("image()", x.image(), 1);
        x.slate(2, 1);
        x.put(0, 5);
        due.is("image()", x.image(), 2);
        x.put(0, 7);
        due.is("undo()", x.undo(), 2);
        due.is("of(0, 0)", x.of(0, 0), 5);
        due.is("of(1, 0)", x.of(1, 0), 2);
    }

    /** "THE IMAGE is taken": that changes nothing else. */
    static void promise32_changesNothing() {
        LowWater x = Make.full();
        String was = Make.look(x);
        x.image();
        due.same("image", Make.look(x), was);
    }

    // ---- promise 33

    /** "STATE: there is none". */
    static void promise33_noImage() {
        due.is("undo()", new LowWater().undo(), STATE);
        due.is("undo() of all", Make.full().undo(), STATE);
    }

    /** "They change nothing". */
    static void promise33_refusedChangesNothing() {
        LowWater x = Make.library();
        String was = Make.look(x);
        x.undo();
        due.same("undo that is refused", Make.look(x), was);
        due.is("undo() again", x.undo(), STATE);
    }

    /** "All is as THE IMAGE": of nothing. */
    static void promise33_toNothing() {
        LowWater x = new LowWater();
        String was = Make.look(x);
        x.image();
        Make.slates(x, 8, 1, 0, 4);
        Make.readers(x, 4, 9);
        Make.cave(x, "ebb 9 h<99");
        Make.feed(x, "ebb");
        x.ask(0, 0, 1);
        x.see(0, true);
        x.tale(0, 1, 1);
        x.hours(60);
        due.is("undo()", x.undo(), 0);
        due.same("what undo undoes", Make.look(x), was);
    }

    /** "All is as THE IMAGE": full, then emptied of what can be emptied. */
    static void promise33_toFull() {
        LowWater x = Make.full();
        x.image();
        String was = Make.look(x);
        x.ask(-1, 0, 0);
        x.see(-1, true);
        x.tale(-1, 0, 0);
        x.put(5, 0);
        x.hours(7);
        due.is("undo()", x.undo(), 6);
        due.same("what undo undoes", Make.look(x), was);
        due.is("feed(1)", x.feed(1), FULL);
        due.is("cave()", x.cave(), FULL);
        due.is("slate(0, 1)", x.slate(0, 1), FULL);
        due.is("reader(0, 0)", x.reader(0, 0), FULL);
        due.is("ask(0, 0, 0)", x.ask(0, 0, 0), FULL);
        due.is("see(0, true)", x.see(0, true), FULL);
        due.is("tale(0, 0, 0)", x.tale(0, 0, 0), FULL);
    }

    /** "All is as THE IMAGE": what was full then is not any more. */
    static void promise33_fullNoMore() {
        LowWater x = Make.slates(new LowWater(), 0, 1, 1, 1, 2, 1, 3, 1, 4, 1);
        Make.readers(x, 0, 0, 0, 0, 0, 0);
        for (int i = 0; i < 7; i++) {
            x.ask(0, 0, 0);
            x.see(0, true);
            x.tale(0, 0, 0);
        }
        x.image();
        for (int i = 0; i < 2; i++) {
            due.is("slate", x.slate(5 + i, 1), 5);
            due.is("slate", x.slate(5, 1), FULL);
            due.is("reader", x.reader(6, i), 3);
            due.is("reader", x.reader(6, 0), FULL);
            due.is("ask", x.ask(0, 0, 0), 8);
            due.is("see", x.see(0, true), 8);
            due.is("tale", x.tale(0, 0, 0), 8);
            due.is("tale", x.tale(0, 0, 0), FULL);
            due.is("of(5, 0)", x.of(5, 0), 5 + i);
            due.is("at(3, 1)", x.at(3, 1), i);
            due.is("undo()", x.undo(), 5);
            due.is("at(3, 1)", x.at(3, 1), NONE);
        }
    }

    /** "THE IMAGE: all that there is (but THE IMAGE": it stays, and a second undo is to it again. */
    static void promise33_twice() {
        LowWater x = Make.slates(new LowWater(), 1, 1);
        x.image();
        x.slate(2, 2);
        x.put(0, 8);
        due.is("undo()", x.undo(), 1);
        due.is("undo() again", x.undo(), 1);
        x.put(0, 7);
        x.slate(3, 3);
        due.is("undo() behind more", x.undo(), 1);
        due.is("of(0, 0)", x.of(0, 0), 1);
        due.is("of(1, 0)", x.of(1, 0), NONE);
    }

    /** "THE IMAGE: all that there is (but .. THE TRACE)": that stays as it is, also of a READER that is gone. */
    static void promise33_theTraceStays() {
        LowWater x = last(0, 3, 0);
        x.act(0, READS, 0);
        x.image();
        x.reader(4, 0);
        x.act(1, TELLS, 0);
        due.is("undo()", x.undo(), 0);
        due.is("count(1)", x.count(1), 1);
        trace(x, 41, 3, 2, 11, 1, 11, 1);
    }

    /** "All is as THE IMAGE": the CAVE that held, though others came behind it, as many as there can be. */
    static void promise33_theCaveThatHeld() {
        LowWater x = Make.under("ebb 1 h=0");
        x.image();
        for (int i = 1; i < 5; i++) {
            due.is("cave()", Make.cave(x, "ebb " + (i + 1) + " h=0"), i);
        }
        due.is("told(1)", x.told(1), 1);
        due.is("cave() of a sixth", Make.cave(x, "ebb 6 h=0"), FULL);
        due.is("undo()", x.undo(), 0);
        due.is("count(2)", x.count(2), 1);
        due.is("count(6)", x.count(6), 0);
        due.is("told(1)", x.told(1), 5);
        due.is("cave()", Make.cave(x, "ebb 3 h=0"), 1);
        due.is("told(1)", x.told(1), 3);
        x.undo();
        due.is("told(1)", x.told(1), 5);
    }

    /** "All is as THE IMAGE": all CLAUSES of the CAVE that held, at HOURS that nobody has asked for yet. */
    static void promise33_allClausesOfTheCaveThatHeld() {
        LowWater x = Make.under("swell 1 h=0;swell 2 h=1|h=2&!(d<1|m>3);ebb 1 h=4;wave 3 h>4;swell 99 !(d<69|m=4)");
        x.image();
        Make.cave(x, "ebb 9 h<99");
        due.is("level(0)", x.level(0), 0);
        x.undo();
        int[] levels = {7, 7, 4, 3, 1, 1, 0, 1, 2, 3, 4, 5, 7, 7, 4};
        for (int k = 0; k < levels.length; k++) {
            due.is("level(" + k + ")", x.level(k), levels[k]);
        }
        due.is("level(26)", x.level(26), 6);
        x.hours(5);
        due.is("told(2)", x.told(2), 3);
    }

    /** "All is as THE IMAGE": the CAVE that held, where h, d and m are at their ends. */
    static void promise33_theCaveAtTheEnds() {
        LowWater x = Make.go(Make.under("swell 3 h=11&d=13&m=4"), 780);
        due.is("level(59)", x.level(59), 8);
        due.is("level(60)", x.level(60), 6);
        x.image();
        Make.cave(x, "ebb 9 h<99");
        due.is("level(59)", x.level(59), 0);
        due.is("level(60)", x.level(60), 0);
        x.undo();
        due.is("level(59)", x.level(59), 8);
        due.is("level(60)", x.level(60), 6);
    }

    /** "All is as THE IMAGE": SLATES that come behind it have their own SHELF and LINES. */
    static void promise33_theSlates() {
        LowWater x = Make.slates(new LowWater(), 1, 1);
        x.image();
        Make.slates(x, 2, 2, 3, 3);
        x.undo();
        due.is("of(1, 1)", x.of(1, 1), NONE);
        due.is("slate(7, 4)", x.slate(7, 4), 1);
        due.is("of(1, 0)", x.of(1, 0), 7);
        due.is("of(1, 1)", x.of(1, 1), 4);
        due.is("of(0, 1)", x.of(0, 1), 1);
    }

    /** "All is as THE IMAGE": no CAVE held. */
    static void promise33_noCaveHeld() {
        LowWater x = new LowWater();
        x.image();
        Make.cave(x, "ebb 6 h=0;wave 3 h=0");
        due.is("told(1)", x.told(1), 0);
        due.is("told(2)", x.told(2), 3);
        x.undo();
        due.is("told(1)", x.told(1), 6);
        due.is("told(2)", x.told(2), 0);
        due.is("count(2)", x.count(2), 0);
    }

    /** "All is as THE IMAGE": the signs of THE TAPE, in the middle of a CAVE, empty and full. */
    static void promise33_theTape() {
        LowWater x = new LowWater();
        Make.feed(x, "ebb 6 ");
        x.image();
        Make.feed(x, "h=0;wave");
        x.cave();
        Make.feed(x, "wave 12345");
        x.undo();
        due.is("count(6)", x.count(6), 6);
        due.is("cave()", Make.cave(x, "h=0"), 0);
        due.is("told(1)", x.told(1), 0);
        x.image();
        Make.feed(x, "ebb");
        x.undo();
        due.is("cave() of an empty TAPE", x.cave(), -10);
    }

    /** "All is as THE IMAGE": a FAULT and a cave() that is FULL leave it as it was. */
    static void promise33_aFaultLeavesTheImage() {
        LowWater x = Make.under("ebb 1 h=0");
        x.image();
        due.is("cave() with a FAULT", Make.cave(x, "ebb 5 h=0;ebb 5 h=0;"), -30);
        x.undo();
        due.is("told(1)", x.told(1), 5);
    }

    /** "All is as THE IMAGE": HOUR, also from 9999 back. */
    static void promise33_theHour() {
        LowWater x = Make.go(new LowWater(), 9990);
        x.image();
        x.hours(9);
        due.is("hours(1)", x.hours(1), STATE);
        x.undo();
        due.is("told(0)", x.told(0), 9990);
        due.is("hours(9)", x.hours(9), 9999);
    }

    /** "All is as THE IMAGE": another READER may come by the same number. */
    static void promise33_theReaders() {
        LowWater x = last(0, 0, 1);
        x.image();
        x.reader(4, 9);
        x.undo();
        due.is("count(1)", x.count(1), 1);
        due.is("at(1, 0)", x.at(1, 0), NONE);
        due.is("act(1, 0, 0)", x.act(1, 0, 0), 0);
        due.is("reader(5, 3)", x.reader(5, 3), 1);
        due.is("at(1, 0)", x.at(1, 0), 5);
        due.is("as(1, 4)", x.as(1, 4), ANOTHER);
        x.undo();
        due.is("count(1)", x.count(1), 1);
    }

    /** "All is as THE IMAGE": what was told by hand, changed and told again. */
    static void promise33_whatWasTold() {
        LowWater x = Make.slates(last(0, 0, 0), 0, 1, 8, 1);
        x.ask(0, 0, 0);
        x.see(0, true);
        x.tale(0, 0, 0);
        x.image();
        x.ask(-1, 0, 0);
        x.ask(0, 1, 3);
        x.see(-1, true);
        x.see(6, true);
        x.tale(-1, 0, 0);
        x.tale(0, 1, 0);
        due.is("waits()", x.waits(), 1);
        due.is("stood()", x.stood(), 511);
        due.is("looked()", x.looked(), NEVER);
        x.undo();
        due.is("waits()", x.waits(), 7);
        due.is("stood()", x.stood(), 448);
        due.is("looked()", x.looked(), 0);
    }

    // ---- promise 34

    /** "NONE": too small. */
    static void promise34_whatTooSmall() {
        due.is("count(-1)", new LowWater().count(-1), NONE);
        due.is("count(LOW)", Make.full().count(LOW), NONE);
    }

    /** "NONE": too large. */
    static void promise34_whatTooLarge() {
        due.is("count(8)", new LowWater().count(8), NONE);
        due.is("count(HIGH)", Make.full().count(HIGH), NONE);
    }

    /** "0 SLATES .. 7 bodies": nothing is there. */
    static void promise34_ofNothing() {
        LowWater x = new LowWater();
        for (int what = 0; what <= 7; what++) {
            due.is("count(" + what + ")", x.count(what), 0);
        }
    }

    /** "0 SLATES .. 7 bodies": as many as there can be. */
    static void promise34_ofAll() {
        LowWater x = Make.full();
        int[] want = {6, 4, 5, 8, 8, 8, 100, 2};
        for (int what = 0; what <= 7; what++) {
            due.is("count(" + what + ")", x.count(what), want[what]);
        }
    }

    /** "0 SLATES .. 6 signs of THE TAPE": each its own. */
    static void promise34_eachItsOwn() {
        LowWater x = Make.library();
        int[] want = {3, 4, 1, 2, 3, 4, 3, 2};
        for (int what = 0; what <= 7; what++) {
            due.is("count(" + what + ")", x.count(what), want[what]);
        }
    }

    /** "7 bodies that ran in the latest act()": of one that is refused, of none. */
    static void promise34_ofNoAct() {
        LowWater x = last(0, 4, 0);
        due.is("count(7) of none", x.count(7), 0);
        x.act(0, TELLS, 0);
        due.is("count(7)", x.count(7), 7);
        x.act(0, READS, 0);
        due.is("count(7)", x.count(7), 2);
        x.act(0, 3, 0);
        due.is("count(7) of no such act", x.count(7), 0);
    }

    /** "is asked .. and changes nothing". */
    static void promise34_changesNothing() {
        LowWater x = Make.library();
        String was = Make.look(x);
        for (int what = -1; what <= 8; what++) {
            x.count(what);
        }
        due.same("count", Make.look(x), was);
    }
}
