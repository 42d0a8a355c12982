/** Promises 20 to 28: of each sentence that names an edge (quoted ahead of its test) a test of its own. */
public final class EdgesOfDryTest {
    private static final int NONE = -1, BAD = -2, FULL = -4, NEVER = -5;
    private static final int LOW = Integer.MIN_VALUE, HIGH = Integer.MAX_VALUE;
    private static final long NO = Long.MIN_VALUE;
    private static final String NEVER_DRY = "swell 9 h<99", ALWAYS_0 = "ebb 9 h<99";
    private static final Due due = new Due();

    public static void main(String[] args) {
        Tests.run(EdgesOfDryTest.class, due);
    }

    private static void open(LowWater x, int shelf, int n, int howMany, int longest) {
        due.is("open(" + shelf + ", " + n + ", 0)", x.open(shelf, n, 0), howMany);
        due.is("open(" + shelf + ", " + n + ", 1)", x.open(shelf, n, 1), longest);
    }

    private static void safe(LowWater x, int shelf, int n, long above, long below) {
        due.is("safe(" + shelf + ", " + n + ", 0)", x.safe(shelf, n, 0), above);
        due.is("safe(" + shelf + ", " + n + ", 1)", x.safe(shelf, n, 1), below);
    }

    private static void mean(LowWater x, int n, long above, long below) {
        due.is("mean(" + n + ", 0)", x.mean(n, 0), above);
        due.is("mean(" + n + ", 1)", x.mean(n, 1), below);
    }

    /** A new object, no CAVE, one SLATE, one READER. LEVEL: 6 5 4 3 2 1 0 1 2 3 4 5 from HOUR 0 on. */
    private static LowWater one(int shelf, int lines, int kind, int v) {
        return Make.readers(Make.slates(new LowWater(), shelf, lines), kind, v);
    }

    private static void looked(LowWater x, int k, int want) {
        x.tale(-1, 0, 0);
        due.is("tale(0, 0, " + k + ")", x.tale(0, 0, k), 1);
        due.is("looked() at k " + k, x.looked(), want);
    }

    // ---- promise 20

    /** "k HOURS from now (0 .. 60)": too small. "BAD". */
    static void promise20_kTooSmall() {
        LowWater x = Make.slates(new LowWater(), 8, 1);
        due.is("force(-1)", x.force(-1), BAD);
        due.is("force(LOW)", x.force(LOW), BAD);
    }

    /** "k HOURS from now (0 .. 60)": the ends. */
    static void promise20_kAtTheEnds() {
        LowWater x = Make.slates(Make.under("ebb 6 h=0&d=5"), 0, 1, 6, 1);
        due.is("force(0)", x.force(0), 2);
        due.is("force(60)", x.force(60), 3);
    }

    /** "k HOURS from now (0 .. 60)": too large. */
    static void promise20_kTooLarge() {
        LowWater x = Make.slates(new LowWater(), 8, 1);
        due.is("force(61)", x.force(61), BAD);
        due.is("force(HIGH)", x.force(HIGH), BAD);
    }

    /** "SLATES whose SHELF is DRY then, as bits": no SLATE, none of them, all six, the last alone. */
    static void promise20_bits() {
        due.is("force(6) of nothing", new LowWater().force(6), 0);
        LowWater x = Make.slates(new LowWater(), 0, 1, 1, 1, 2, 1, 3, 1, 4, 1, 5, 1);
        due.is("force(0)", x.force(0), 0);
        due.is("force(1)", x.force(1), 32);
        due.is("force(6)", x.force(6), 63);
    }

    /** "DRY .., if LEVEL is its number or less": at its number, 1 below, 1 above. */
    static void promise20_dryAtItsOwnNumber() {
        LowWater x = Make.slates(new LowWater(), 3, 1);
        due.is("force(2)", x.force(2), 0);
        due.is("force(3)", x.force(3), 1);
        due.is("force(4)", x.force(4), 1);
        due.is("force(9)", x.force(9), 1);
        due.is("force(10)", x.force(10), 0);
    }

    /** "LEVEL ..; 0 .. 9": at 9 no SHELF is DRY, at 0 each. */
    static void promise20_levelAtItsBounds() {
        due.is("force(0) at 9", Make.slates(Make.under(NEVER_DRY), 8, 1, 0, 1).force(0), 0);
        due.is("force(0) at 0", Make.slates(Make.under(ALWAYS_0), 8, 1, 0, 1).force(0), 3);
    }

    /** "goes on from HOUR (beyond 9999, too)": of HOUR 10002 h is 6, of HOUR 10059 h is 3, d is 12. */
    static void promise20_beyond9999() {
        LowWater x = Make.go(Make.slates(Make.under("ebb 1 d=12"), 0, 1, 2, 1), 9999);
        due.is("force(0)", x.force(0), 0);
        due.is("force(1)", x.force(1), 2);
        due.is("force(3)", x.force(3), 3);
        due.is("force(60)", x.force(60), 2);
    }

    /** "is asked .. and changes nothing". */
    static void promise20_changesNothing() {
        LowWater x = Make.library();
        String was = Make.look(x);
        x.force(60);
        x.force(61);
        due.same("force", Make.look(x), was);
    }

    // ---- promise 21

    /** "in n HOURS (0 .. 60)": too small. "BAD: n". */
    static void promise21_nTooSmall() {
        LowWater x = new LowWater();
        open(x, 8, -1, BAD, BAD);
        open(x, 8, LOW, BAD, BAD);
    }

    /** "in n HOURS (0 .. 60)": none, one, 60. */
    static void promise21_nAtTheEnds() {
        LowWater x = new LowWater();
        open(x, 8, 0, 0, 0);
        open(x, 8, 1, 1, 1);
        open(x, 5, 1, 0, 0);
        open(x, 8, 60, 60, 60);
        open(x, 0, 60, 5, 1);
    }

    /** "in n HOURS (0 .. 60)": too large. */
    static void promise21_nTooLarge() {
        LowWater x = new LowWater();
        open(x, 8, 61, BAD, BAD);
        open(x, 8, HIGH, BAD, BAD);
    }

    /** "of HOURS 0 .. n less 1": the n-th is not one of them. */
    static void promise21_nLess1() {
        LowWater x = new LowWater();
        open(x, 0, 6, 0, 0);
        open(x, 0, 7, 1, 1);
        open(Make.under("swell 99 !(h=11&d=4)"), 8, 59, 0, 0);
        open(Make.under("swell 99 !(h=11&d=4)"), 8, 60, 1, 1);
        open(Make.under("swell 99 !(h=0&d=5)"), 8, 60, 0, 0);
    }

    /** "the longest row of these": at the start. */
    static void promise21_rowAtTheStart() {
        LowWater x = Make.go(new LowWater(), 6);
        open(x, 2, 6, 3, 3);
        open(x, 2, 12, 5, 3);
    }

    /** "the longest row of these": at the end, cut by it. */
    static void promise21_rowAtTheEnd() {
        LowWater x = new LowWater();
        open(x, 2, 6, 2, 2);
        open(x, 2, 9, 5, 5);
        open(Make.go(new LowWater(), 8), 2, 11, 4, 3);
    }

    /** "the longest row of these": between two shorter ones. */
    static void promise21_rowBetween() {
        open(Make.go(new LowWater(), 6), 2, 24, 10, 5);
        open(Make.go(new LowWater(), 8), 2, 13, 6, 5);
    }

    /** "the longest row of these": all of them, or none. */
    static void promise21_rowOfAllAndOfNone() {
        open(Make.under(ALWAYS_0), 0, 60, 60, 60);
        open(Make.under(NEVER_DRY), 8, 60, 0, 0);
    }

    /** "NONE: shelf". */
    static void promise21_noSuchShelf() {
        LowWater x = new LowWater();
        for (int shelf : new int[] {LOW, -1, 9, HIGH}) {
            open(x, shelf, 12, NONE, NONE);
        }
        open(x, 0, 12, 1, 1);
    }

    /** "NONE: .. what". */
    static void promise21_noSuchWhat() {
        LowWater x = new LowWater();
        for (int what : new int[] {LOW, -1, 2, HIGH}) {
            due.is("open(8, 12, " + what + ")", x.open(8, 12, what), NONE);
        }
    }

    /** "of several the first one told": NONE ahead of BAD. */
    static void promise21_noneAheadOfBad() {
        LowWater x = new LowWater();
        open(x, 9, 61, NONE, NONE);
        open(x, -1, -1, NONE, NONE);
        due.is("open(8, 61, 2)", x.open(8, 61, 2), NONE);
        due.is("open(8, -1, -1)", x.open(8, -1, -1), NONE);
    }

    /** "goes on from HOUR (beyond 9999, too)": LEVEL is 3 at HOUR 9999, 0 at HOUR 10002. */
    static void promise21_beyond9999() {
        LowWater x = Make.go(new LowWater(), 9999);
        open(x, 0, 3, 0, 0);
        open(x, 0, 4, 1, 1);
        open(x, 3, 60, 35, 7);
    }

    /** "is asked .. and changes nothing". */
    static void promise21_changesNothing() {
        LowWater x = Make.library();
        String was = Make.look(x);
        x.open(3, 60, 1);
        x.open(3, 61, 1);
        due.same("open", Make.look(x), was);
    }

    // ---- promise 22

    /** "a LEVEL x (0 .. 9)": too small. "BAD". */
    static void promise22_levelTooSmall() {
        LowWater x = Make.under(ALWAYS_0);
        due.is("next(-1)", x.next(-1), BAD);
        due.is("next(LOW)", x.next(LOW), BAD);
    }

    /** "a LEVEL x (0 .. 9)": the ends. */
    static void promise22_levelAtTheEnds() {
        LowWater x = new LowWater();
        due.is("next(0)", x.next(0), 6);
        due.is("next(9)", x.next(9), 0);
        due.is("next(8) at 9", Make.under(NEVER_DRY).next(8), NEVER);
        due.is("next(9) at 9", Make.under(NEVER_DRY).next(9), 0);
        due.is("next(0) at 0", Make.under(ALWAYS_0).next(0), 0);
    }

    /** "a LEVEL x (0 .. 9)": too large. */
    static void promise22_levelTooLarge() {
        LowWater x = new LowWater();
        due.is("next(10)", x.next(10), BAD);
        due.is("next(HIGH)", x.next(HIGH), BAD);
    }

    /** "at which LEVEL is x or less": now, at x, 1 above, below without x between. */
    static void promise22_xOrLess() {
        LowWater x = new LowWater();
        due.is("next(6)", x.next(6), 0);
        due.is("next(5)", x.next(5), 1);
        LowWater y = Make.under("ebb 9 h=3");
        due.is("next(3)", y.next(3), 3);
        due.is("next(0)", y.next(0), 3);
    }

    /** "the least k (0 .. 60)": 60 is one. */
    static void promise22_kAt60() {
        LowWater x = Make.under("swell 9 !(h=0&d=5)");
        due.is("next(8)", x.next(8), 60);
        due.is("next(6)", x.next(6), 60);
        due.is("next(9)", x.next(9), 0);
    }

    /** "(-5: none)": 61 is none; LEVEL is never as low. */
    static void promise22_kAt61() {
        LowWater x = Make.under("swell 9 !(h=1&d=5)");
        due.is("next(8)", x.next(8), NEVER);
        due.is("next(5) from HOUR 1", Make.go(x, 1).next(5), 60);
        due.is("next(4) from HOUR 1", x.next(4), NEVER);
    }

    /** "goes on from HOUR (beyond 9999, too)": of HOUR 10059 h is 3, d is 12. */
    static void promise22_beyond9999() {
        LowWater x = Make.go(new LowWater(), 9999);
        due.is("next(3)", x.next(3), 0);
        due.is("next(2)", x.next(2), 1);
        due.is("next(0)", x.next(0), 3);
        LowWater y = Make.go(Make.under("swell 9 !(h=3&d=12)"), 9999);
        due.is("next(3), 60 on", y.next(3), 60);
        due.is("next(2), never", y.next(2), NEVER);
    }

    /** "is asked .. and changes nothing". */
    static void promise22_changesNothing() {
        LowWater x = Make.library();
        String was = Make.look(x);
        x.next(0);
        x.next(10);
        due.same("next", Make.look(x), was);
    }

    // ---- promise 23

    /** "NO: shelf". */
    static void promise23_noSuchShelf() {
        LowWater x = new LowWater();
        for (int shelf : new int[] {LOW, -1, 9, HIGH}) {
            safe(x, shelf, 1, NO, NO);
        }
        safe(x, 0, 1, 0, 1);
        safe(x, 8, 1, 1, 1);
    }

    /** "n HOURS (0 .. 12)": too small. "NO: .. n". */
    static void promise23_nTooSmall() {
        safe(new LowWater(), 8, -1, NO, NO);
        safe(new LowWater(), 8, LOW, NO, NO);
    }

    /** "n HOURS (0 .. 12)": the ends. */
    static void promise23_nAtTheEnds() {
        LowWater x = Make.under("swell 9 h=11&d=0;swell 9 h=0&d=1");
        safe(x, 8, 11, 1, 1);
        safe(x, 8, 12, 0, 1);
        safe(Make.go(x, 1), 8, 12, 0, 1);
        safe(Make.under("swell 9 h=0&d=1"), 8, 12, 1, 1);
    }

    /** "n HOURS (0 .. 12)": too large. */
    static void promise23_nTooLarge() {
        safe(new LowWater(), 8, 13, NO, NO);
        safe(new LowWater(), 8, HIGH, NO, NO);
    }

    /** "NO: .. part". */
    static void promise23_noSuchPart() {
        LowWater x = new LowWater();
        for (int part : new int[] {LOW, -1, 2, HIGH}) {
            due.is("safe(8, 1, " + part + ")", x.safe(8, 1, part), NO);
        }
    }

    /** "at each HOUR 0 .. n less 1": of no HOUR, whatever LEVEL is. */
    static void promise23_ofNoHour() {
        for (int shelf = 0; shelf < 9; shelf++) {
            safe(Make.under(NEVER_DRY + ";wave 10 h<99"), shelf, 0, 1, 1);
        }
    }

    /** "0 .. n less 1 from now": the n-th is not one of them. */
    static void promise23_nLess1() {
        LowWater x = Make.go(Make.under("wave 3 h=10"), 9);
        safe(x, 4, 1, 1, 1);
        safe(x, 4, 2, 7, 10);
        safe(x, 4, 3, 0, 1);
    }

    /** "how likely it is DRY": LEVEL is its number: a wave wets it. */
    static void promise23_levelAtTheShelf() {
        safe(Make.under("wave 3 h=0"), 6, 1, 7, 10);
    }

    /** "by which LEVEL is 1 more then": 1 below its number no wave wets it. */
    static void promise23_levelBelowTheShelf() {
        safe(Make.under("wave 10 h=0"), 7, 1, 1, 1);
        safe(Make.under("wave 3 h=0"), 8, 1, 1, 1);
    }

    /** "how likely it is DRY": 1 above its number it is not, wave or none. */
    static void promise23_levelAboveTheShelf() {
        safe(Make.under("wave 0 h=0"), 5, 1, 0, 1);
        safe(Make.under("wave 10 h=0"), 5, 1, 0, 1);
        safe(Make.under(NEVER_DRY), 8, 12, 0, 1);
    }

    /** "with odds of WAVE of ten": WAVE is 10, or above its bound. */
    static void promise23_waveOf10() {
        safe(Make.under("wave 10 h=0"), 6, 1, 0, 1);
        safe(Make.under("wave 11 h=0"), 6, 1, 0, 1);
        safe(Make.under("wave 99 h=0;wave 99 h=0"), 6, 1, 0, 1);
        safe(Make.under("wave 9 h=0"), 6, 1, 1, 10);
    }

    /** "with odds of WAVE of ten": WAVE is 0, by no CAVE, by no wave, by wave 0. */
    static void promise23_waveOf0() {
        safe(new LowWater(), 6, 1, 1, 1);
        safe(Make.under("swell 0 h=0"), 6, 12, 1, 1);
        safe(Make.under("wave 0 h=0"), 6, 1, 1, 1);
    }

    /** "in lowest terms": of one HOUR. */
    static void promise23_lowestTerms() {
        int[] above = {1, 9, 4, 7, 3, 1, 2, 3, 1, 1, 0};
        int[] below = {1, 10, 5, 10, 5, 2, 5, 10, 5, 10, 1};
        for (int wave = 0; wave <= 10; wave++) {
            safe(Make.under("wave " + wave + " h=0"), 6, 1, above[wave], below[wave]);
        }
    }

    /** "in lowest terms": of several, "each by itself"; 0 is 0 by 1. */
    static void promise23_lowestTermsOfSeveral() {
        LowWater x = Make.under("ebb 9 h<99;wave 5 h=0;wave 8 h=1;wave 10 h=2");
        safe(x, 0, 1, 1, 2);
        safe(x, 0, 2, 1, 10);
        safe(x, 0, 3, 0, 1);
    }

    /** "n HOURS (0 .. 12)": twelve, each with odds of a wave. */
    static void promise23_twelveHoursOfWaves() {
        safe(Make.under(ALWAYS_0 + ";wave 3 h<99"), 0, 12, 13841287201L, 1000000000000L);
        safe(Make.under(ALWAYS_0 + ";wave 1 h<99"), 0, 12, 282429536481L, 1000000000000L);
        safe(Make.under(ALWAYS_0 + ";wave 2 h<99"), 0, 12, 16777216, 244140625);
        safe(Make.under(ALWAYS_0 + ";wave 5 h<99"), 0, 12, 1, 4096);
        safe(Make.under(ALWAYS_0 + ";wave 9 h<99"), 0, 12, 1, 1000000000000L);
        safe(Make.under(ALWAYS_0 + ";wave 9 h<99"), 1, 12, 1, 1);
    }

    /** "goes on from HOUR (beyond 9999, too)": LEVEL is 3 at HOURS 9999 and 10005. */
    static void promise23_beyond9999() {
        LowWater x = Make.go(Make.under("wave 5 h=3|h=9"), 9999);
        safe(x, 3, 1, 1, 2);
        safe(x, 3, 6, 1, 2);
        safe(x, 3, 7, 1, 4);
        safe(x, 3, 8, 0, 1);
        safe(Make.go(Make.under("wave 5 d=7"), 9999), 3, 7, 1, 4);
    }

    /** "is asked .. and changes nothing". */
    static void promise23_changesNothing() {
        LowWater x = Make.library();
        String was = Make.look(x);
        x.safe(6, 12, 1);
        x.safe(9, 13, 2);
        due.same("safe", Make.look(x), was);
    }

    // ---- promise 24

    /** "n HOURS (1 .. 60)": too small. "NO". */
    static void promise24_nTooSmall() {
        mean(new LowWater(), 0, NO, NO);
        mean(new LowWater(), -1, NO, NO);
        mean(new LowWater(), LOW, NO, NO);
    }

    /** "n HOURS (1 .. 60)": the ends. */
    static void promise24_nAtTheEnds() {
        mean(new LowWater(), 1, 6, 1);
        mean(new LowWater(), 60, 3, 1);
    }

    /** "n HOURS (1 .. 60)": too large. */
    static void promise24_nTooLarge() {
        mean(new LowWater(), 61, NO, NO);
        mean(new LowWater(), HIGH, NO, NO);
    }

    /** "part likewise": 0 above, 1 below the line, no other. */
    static void promise24_noSuchPart() {
        LowWater x = new LowWater();
        for (int part : new int[] {LOW, -1, 2, HIGH}) {
            due.is("mean(12, " + part + ")", x.mean(12, part), NO);
        }
    }

    /** "LEVEL at these, together": from now on, the n-th from now is not one of them. */
    static void promise24_nLess1() {
        mean(Make.under("ebb 5 h=11&d=4"), 60, 35, 12);
        mean(Make.under("ebb 6 h=0&d=5"), 60, 3, 1);
        mean(new LowWater(), 2, 11, 2);
    }

    /** "a fraction in lowest terms": by n, by a part of n, whole. */
    static void promise24_lowestTerms() {
        mean(new LowWater(), 4, 9, 2);
        mean(new LowWater(), 5, 4, 1);
        mean(new LowWater(), 8, 11, 4);
        mean(new LowWater(), 10, 27, 10);
        mean(Make.go(new LowWater(), 5), 3, 2, 3);
    }

    /** "LEVEL ..; 0 .. 9": all at its bounds; 0 is 0 by 1. */
    static void promise24_levelAtItsBounds() {
        mean(Make.under(ALWAYS_0), 60, 0, 1);
        mean(Make.under(ALWAYS_0), 1, 0, 1);
        mean(Make.under(NEVER_DRY), 60, 9, 1);
        mean(Make.go(new LowWater(), 6), 1, 0, 1);
    }

    /** "goes on from HOUR (beyond 9999, too)": LEVEL is 3 2 1 0 from HOUR 9999 on. */
    static void promise24_beyond9999() {
        LowWater x = Make.go(new LowWater(), 9999);
        mean(x, 1, 3, 1);
        mean(x, 2, 5, 2);
        mean(x, 4, 3, 2);
        mean(x, 60, 3, 1);
    }

    /** "is asked .. and changes nothing". */
    static void promise24_changesNothing() {
        LowWater x = Make.library();
        String was = Make.look(x);
        x.mean(60, 1);
        x.mean(61, 1);
        due.same("mean", Make.look(x), was);
    }

    // ---- promise 25

    /** "k HOURS from now (0 .. 60)": too small. "BAD". */
    static void promise25_kTooSmall() {
        LowWater x = new LowWater();
        due.is("see(-2, true)", x.see(-2, true), BAD);
        due.is("see(-2, false)", x.see(-2, false), BAD);
        due.is("see(LOW, true)", x.see(LOW, true), BAD);
    }

    /** "k HOURS from now (0 .. 60)": the ends. */
    static void promise25_kAtTheEnds() {
        LowWater x = new LowWater();
        due.is("see(0, true)", x.see(0, true), 1);
        due.is("see(60, true)", x.see(60, true), 2);
        due.is("see(0, false)", x.see(0, false), 3);
        due.is("see(60, false)", x.see(60, false), 4);
    }

    /** "k HOURS from now (0 .. 60)": too large. */
    static void promise25_kTooLarge() {
        LowWater x = new LowWater();
        due.is("see(61, true)", x.see(61, true), BAD);
        due.is("see(61, false)", x.see(61, false), BAD);
        due.is("see(HIGH, true)", x.see(HIGH, true), BAD);
    }

    /** "8 at most"; "FULL". */
    static void promise25_eightSeen() {
        LowWater x = new LowWater();
        for (int n = 1; n <= 8; n++) {
            due.is("see(6, true)", x.see(6, true), n);
        }
        due.is("see(6, true)", x.see(6, true), FULL);
        due.is("see(0, false)", x.see(0, false), FULL);
        due.is("count(4)", x.count(4), 8);
    }

    /** "(k -1: none then, 0": of eight, of none. */
    static void promise25_noneThen() {
        LowWater x = Make.full();
        due.is("see(-1, true)", x.see(-1, true), 0);
        due.is("count(4)", x.count(4), 0);
        due.is("stood()", x.stood(), 511);
        due.is("see(-1, true)", x.see(-1, true), 0);
        due.is("see(6, true)", x.see(6, true), 1);
        due.is("see(-1, true) of nothing", new LowWater().see(-1, true), 0);
    }

    /** "whatever the other is)". */
    static void promise25_whateverTheOtherIs() {
        LowWater x = Make.full();
        due.is("see(-1, false)", x.see(-1, false), 0);
        due.is("count(4)", x.count(4), 0);
        LowWater y = Make.library();
        due.is("see(-1, true)", y.see(-1, true), 0);
        due.is("count(4)", y.count(4), 0);
    }

    /** "k -1: none then": no more than what was SEEN. */
    static void promise25_noneThenOfSeenAlone() {
        LowWater x = Make.full();
        x.see(-1, false);
        due.is("count(3)", x.count(3), 8);
        due.is("count(5)", x.count(5), 8);
        due.is("count(0)", x.count(0), 6);
    }

    /** "of several the first one told": BAD ahead of FULL. */
    static void promise25_badAheadOfFull() {
        LowWater x = Make.full();
        due.is("see(61, true)", x.see(61, true), BAD);
        due.is("see(-2, false)", x.see(-2, false), BAD);
        due.is("see(60, true)", x.see(60, true), FULL);
    }

    /** "They change nothing". */
    static void promise25_refusedChangesNothing() {
        LowWater x = Make.library();
        String was = Make.look(x);
        x.see(61, true);
        x.see(-2, false);
        due.same("see that is BAD", Make.look(x), was);
        x = Make.full();
        x.see(-1, true);
        for (int i = 0; i < 8; i++) {
            x.see(6, true);
        }
        was = Make.look(x);
        x.see(6, false);
        due.same("see that is FULL", Make.look(x), was);
    }

    // ---- promise 26

    /** "by which all of SEEN is so": of none. */
    static void promise26_ofNone() {
        due.is("stood()", new LowWater().stood(), 511);
    }

    /** "as bits": none of the SHELVES. */
    static void promise26_noShelf() {
        LowWater x = new LowWater();
        x.see(3, true);
        x.see(3, false);
        due.is("stood()", x.stood(), 0);
    }

    /** "DRY .., if LEVEL is its number or less": of LEVEL 6 SHELVES 6 .. 8, else 0 .. 5. */
    static void promise26_dryAtItsOwnNumber() {
        LowWater x = new LowWater();
        x.see(0, true);
        due.is("stood(), dry at LEVEL 6", x.stood(), 448);
        x.see(-1, true);
        x.see(0, false);
        due.is("stood(), not dry at LEVEL 6", x.stood(), 63);
        x.see(1, true);
        due.is("stood(), dry at LEVEL 5", x.stood(), 32);
    }

    /** "LEVEL ..; 0 .. 9": at 9 no SHELF is DRY, at 8 the last one. */
    static void promise26_levelAtItsUpperBound() {
        LowWater x = Make.under("swell 9 h=0;swell 3 h=1");
        x.see(0, false);
        due.is("stood(), not dry at LEVEL 9", x.stood(), 511);
        x.see(1, true);
        due.is("stood(), dry at LEVEL 8", x.stood(), 256);
        x.see(-1, true);
        x.see(1, false);
        due.is("stood(), not dry at LEVEL 8", x.stood(), 255);
        x.see(-1, true);
        x.see(0, true);
        due.is("stood(), dry at LEVEL 9", x.stood(), 0);
    }

    /** "LEVEL ..; 0 .. 9": at 0 each SHELF is DRY, at 1 all but the first. */
    static void promise26_levelAtItsLowerBound() {
        LowWater x = new LowWater();
        x.see(6, true);
        due.is("stood(), dry at LEVEL 0", x.stood(), 511);
        x.see(7, false);
        due.is("stood(), not dry at LEVEL 1", x.stood(), 1);
        x.see(6, false);
        due.is("stood(), not dry at LEVEL 0", x.stood(), 0);
        x.see(-1, false);
        x.see(7, true);
        due.is("stood(), dry at LEVEL 1", x.stood(), 510);
    }

    /** "k HOURS from now (0 .. 60)": 60 is HOUR 60. */
    static void promise26_kAt60() {
        LowWater x = Make.under("ebb 2 h=0&d=5");
        x.see(60, true);
        due.is("stood()", x.stood(), 496);
        x.see(60, true);
        x.see(0, false);
        due.is("stood()", x.stood(), 48);
    }

    /** "all of SEEN": all eight, the last as much as the first. */
    static void promise26_allEight() {
        LowWater x = new LowWater();
        for (int i = 0; i < 7; i++) {
            x.see(6, true);
        }
        x.see(0, true);
        due.is("stood()", x.stood(), 448);
        x.see(-1, true);
        x.see(0, true);
        for (int i = 0; i < 7; i++) {
            x.see(6, true);
        }
        due.is("stood()", x.stood(), 448);
    }

    /** "goes on from HOUR (beyond 9999, too)": LEVEL is 2 at HOUR 10000, 3 at HOUR 10059. */
    static void promise26_beyond9999() {
        LowWater x = Make.go(new LowWater(), 9999);
        x.see(1, true);
        due.is("stood()", x.stood(), 508);
        x.see(60, false);
        due.is("stood()", x.stood(), 4);
    }

    /** "is asked .. and changes nothing". */
    static void promise26_changesNothing() {
        LowWater x = Make.library();
        String was = Make.look(x);
        x.stood();
        due.same("stood", Make.look(x), was);
    }

    // ---- promise 27

    /** "k HOURS from now (0 .. 60)": too small. "BAD: k". */
    static void promise27_kTooSmall() {
        LowWater x = one(8, 1, 0, 0);
        due.is("tale(0, 0, -1)", x.tale(0, 0, -1), BAD);
        due.is("tale(0, 0, LOW)", x.tale(0, 0, LOW), BAD);
    }

    /** "k HOURS from now (0 .. 60)": the ends. */
    static void promise27_kAtTheEnds() {
        LowWater x = one(8, 1, 0, 0);
        due.is("tale(0, 0, 0)", x.tale(0, 0, 0), 1);
        due.is("tale(0, 0, 25)", x.tale(0, 0, 25), 2);
        due.is("tale(0, 0, 60)", x.tale(0, 0, 60), 3);
    }

    /** "k HOURS from now (0 .. 60)": too large. */
    static void promise27_kTooLarge() {
        LowWater x = one(8, 1, 0, 0);
        due.is("tale(0, 0, 61)", x.tale(0, 0, 61), BAD);
        due.is("tale(0, 0, 100)", x.tale(0, 0, 100), BAD);
        due.is("tale(0, 0, HIGH)", x.tale(0, 0, HIGH), BAD);
    }

    /** "8 at most"; "FULL". */
    static void promise27_eightTales() {
        LowWater x = one(8, 1, 0, 0);
        for (int n = 1; n <= 8; n++) {
            due.is("tale(0, 0, 0)", x.tale(0, 0, 0), n);
        }
        due.is("tale(0, 0, 0)", x.tale(0, 0, 0), FULL);
        due.is("tale(0, 0, 60)", x.tale(0, 0, 60), FULL);
        due.is("count(5)", x.count(5), 8);
    }

    /** "(reader -1: none then, 0": of eight, of none. */
    static void promise27_noneThen() {
        LowWater x = Make.full();
        due.is("tale(-1, 0, 0)", x.tale(-1, 0, 0), 0);
        due.is("count(5)", x.count(5), 0);
        due.is("looked()", x.looked(), NEVER);
        due.is("tale(-1, 0, 0)", x.tale(-1, 0, 0), 0);
        due.is("tale(0, 0, 0)", x.tale(0, 0, 0), 1);
        due.is("tale(-1, 0, 0) of nothing", new LowWater().tale(-1, 0, 0), 0);
    }

    /** "whatever the others are)": no such SLATE, no such k, both. */
    static void promise27_whateverTheOthersAre() {
        int[][] others = {{-1, 0}, {LOW, 0}, {6, 0}, {HIGH, HIGH}, {0, -1}, {0, 61}, {0, LOW}, {-1, -1}};
        for (int[] other : others) {
            LowWater x = Make.library();
            due.is("tale(-1, " + other[0] + ", " + other[1] + ")", x.tale(-1, other[0], other[1]), 0);
            due.is("count(5)", x.count(5), 0);
        }
    }

    /** "reader -1: none then": no more than the TALES. */
    static void promise27_noneThenOfTheTalesAlone() {
        LowWater x = Make.full();
        x.tale(-1, 0, 0);
        due.is("count(3)", x.count(3), 8);
        due.is("count(4)", x.count(4), 8);
        due.is("count(0)", x.count(0), 6);
        due.is("count(1)", x.count(1), 4);
    }

    /** "NONE": no such READER, of which -2 is one. */
    static void promise27_noSuchReader() {
        LowWater x = one(8, 1, 0, 0);
        for (int reader : new int[] {LOW, -2, 1, 4, HIGH}) {
            due.is("tale(" + reader + ", 0, 0)", x.tale(reader, 0, 0), NONE);
        }
        due.is("tale(0, 0, 0) without any", new LowWater().tale(0, 0, 0), NONE);
    }

    /** "NONE": no such SLATE. */
    static void promise27_noSuchSlate() {
        LowWater x = one(8, 1, 0, 0);
        for (int slate : new int[] {LOW, -1, 1, 6, HIGH}) {
            due.is("tale(0, " + slate + ", 0)", x.tale(0, slate, 0), NONE);
        }
    }

    /** "of several the first one told": NONE, BAD, FULL. */
    static void promise27_refusalsInTheirOrder() {
        LowWater x = Make.full();
        due.is("tale(4, 0, 61)", x.tale(4, 0, 61), NONE);
        due.is("tale(0, 6, 61)", x.tale(0, 6, 61), NONE);
        due.is("tale(0, -1, -1)", x.tale(0, -1, -1), NONE);
        due.is("tale(0, 6, 0)", x.tale(0, 6, 0), NONE);
        due.is("tale(0, 0, 61)", x.tale(0, 0, 61), BAD);
        due.is("tale(0, 0, -1)", x.tale(0, 0, -1), BAD);
        due.is("tale(0, 0, 60)", x.tale(0, 0, 60), FULL);
    }

    /** "They change nothing". */
    static void promise27_refusedChangesNothing() {
        LowWater x = one(8, 1, 0, 0);
        x.tale(0, 0, 0);
        x.slate(0, 1);
        String was = Make.look(x);
        x.tale(1, 1, 0);
        x.tale(0, 2, 0);
        x.tale(0, 1, 61);
        x.tale(0, 1, -1);
        due.same("tale that is refused", Make.look(x), was);
        for (int i = 0; i < 7; i++) {
            x.tale(0, 0, 0);
        }
        was = Make.look(x);
        x.tale(0, 1, 0);
        due.same("tale that is FULL", Make.look(x), was);
        due.is("looked()", x.looked(), NEVER);
    }

    // ---- promise 28

    /** "(-5: none)": no TALE; none that could not be. */
    static void promise28_none() {
        due.is("looked() of nothing", new LowWater().looked(), NEVER);
        LowWater x = one(8, 4, 0, 0);
        for (int i = 0; i < 8; i++) {
            x.tale(0, 0, 8 * i);
        }
        due.is("looked() of eight that can be", x.looked(), NEVER);
    }

    /** "the first of which": the first of all, the last of eight, of two the earlier one. */
    static void promise28_theFirst() {
        LowWater x = Make.slates(one(8, 1, 0, 0), 0, 1);
        for (int i = 0; i < 7; i++) {
            x.tale(0, 0, i);
        }
        x.tale(0, 1, 0);
        due.is("looked(), the last of eight", x.looked(), 7);
        x.tale(-1, 0, 0);
        x.tale(0, 1, 5);
        x.tale(0, 0, 0);
        due.is("looked(), the first", x.looked(), 0);
        x.tale(-1, 0, 0);
        x.tale(0, 0, 9);
        x.tale(0, 1, 6);
        x.tale(0, 1, 7);
        x.tale(0, 1, 5);
        due.is("looked(), of two", x.looked(), 2);
    }

    /** "could not begin then": its SHELF is open at LEVEL its number, not at 1 above. */
    static void promise28_beginsAtItsOwnNumber() {
        LowWater x = one(5, 1, 0, 0);
        looked(x, 0, 0);
        looked(x, 1, NEVER);
        looked(x, 11, NEVER);
        looked(x, 12, 0);
    }

    /** "or not go on": open at the last of its HOURS, not behind it; not ahead of the first. */
    static void promise28_goesOnToTheLastHour() {
        LowWater x = one(1, 3, 0, 0);
        looked(x, 4, 0);
        looked(x, 5, NEVER);
        looked(x, 6, 0);
        looked(x, 7, 0);
    }

    /** "or not go on": at each HOUR between. */
    static void promise28_goesOnBetween() {
        LowWater x = Make.readers(Make.slates(Make.under("swell 9 h=5"), 8, 4), 0, 0);
        looked(x, 1, NEVER);
        looked(x, 2, 0);
        looked(x, 3, 0);
        looked(x, 4, 0);
        looked(x, 5, 0);
        looked(x, 6, NEVER);
    }

    /** "HOURS that a READER needs": as many as its KIND needs, 8 at most. */
    static void promise28_hoursOfTheKind() {
        looked(one(1, 4, 1, 0), 5, NEVER);
        looked(one(1, 4, 1, 0), 7, 0);
        looked(one(0, 4, 4, 5), 6, NEVER);
        looked(one(0, 4, 4, 4), 6, 0);
        looked(one(0, 1, 4, 9), 6, NEVER);
        looked(one(4, 4, 5, 0), 2, NEVER);
        looked(one(4, 4, 5, 0), 3, NEVER);
        looked(one(4, 4, 5, 0), 4, 0);
    }

    /** "to DIVER and BLIND ones also, if LEVEL is its number and (v modulo 3), together, or less". */
    static void promise28_diverAndBlind() {
        looked(one(0, 1, 2, 2), 4, NEVER);
        looked(one(0, 1, 2, 2), 3, 0);
        looked(one(0, 1, 2, 3), 5, 0);
        looked(one(0, 1, 5, 1), 5, NEVER);
        looked(one(0, 1, 5, 1), 7, 0);
    }

    /** "ROWED ..: only, if HOUR is a multiple": HOUR 0 is; the HOUR itself, not k. */
    static void promise28_rowedMayBegin() {
        LowWater x = one(6, 1, 3, 2);
        looked(x, 0, NEVER);
        looked(x, 1, 0);
        looked(x, 3, NEVER);
        looked(x, 60, NEVER);
        x.hours(1);
        looked(x, 0, 0);
        looked(x, 2, NEVER);
        looked(x, 60, 0);
    }

    /** "WAITING: only, if besides LEVEL is not above that of the HOUR ahead (of HOUR 0: that of HOUR 11)". */
    static void promise28_waitingMayBegin() {
        LowWater x = one(6, 1, 6, 0);
        looked(x, 0, 0);
        looked(x, 1, NEVER);
        looked(x, 6, NEVER);
        looked(x, 7, 0);
        looked(x, 12, 0);
        looked(x, 13, NEVER);
        LowWater y = Make.readers(Make.slates(Make.under("swell 1 h=11&d=0"), 6, 1), 6, 0);
        looked(y, 0, NEVER);
        looked(y, 12, NEVER);
        looked(y, 24, 0);
    }

    /** "A READER may begin .. only, if": it goes on at HOURS at which it may not begin. */
    static void promise28_goesOnWhereItMayNotBegin() {
        looked(one(6, 4, 3, 2), 3, NEVER);
        looked(one(6, 4, 3, 2), 4, 0);
        looked(one(6, 4, 6, 0), 5, NEVER);
        looked(one(6, 4, 6, 0), 6, NEVER);
        looked(one(6, 4, 6, 1), 6, NEVER);
        looked(one(6, 4, 6, 1), 7, 0);
    }

    /** "k HOURS from now (0 .. 60)": 60 is HOUR 60, and goes on behind it. */
    static void promise28_kAt60() {
        LowWater x = Make.readers(Make.slates(Make.under("swell 9 !(h<4&d=5)"), 8, 4), 0, 0);
        looked(x, 59, 0);
        looked(x, 60, NEVER);
        x.slate(8, 1);
        x.tale(-1, 0, 0);
        x.tale(0, 1, 59);
        due.is("looked() at k 59 of 1 line", x.looked(), 0);
    }

    /** "a READER, a SLATE, k HOURS from now": each one of these, the first and the last. */
    static void promise28_eachReaderEachSlate() {
        int[] level = {6, 5, 4, 3, 2, 1, 0, 1, 2, 3, 4, 5};
        LowWater x = Make.readers(new LowWater(), 2, 1, 2, 0, 2, 2, 3, 0);
        Make.slates(x, 0, 1, 1, 1, 2, 1, 3, 1, 4, 1, 5, 1);
        int[] dives = {1, 0, 2, 0};
        for (int reader = 0; reader < 4; reader++) {
            for (int slate = 0; slate < 6; slate++) {
                for (int k : new int[] {0, 8, 27, 60}) {
                    int want = level[k % 12] > slate + dives[reader] ? 0 : NEVER;
                    x.tale(-1, 0, 0);
                    x.tale(reader, slate, k);
                    due.is("looked() at READER " + reader + ", SLATE " + slate + ", k " + k, x.looked(), want);
                }
            }
        }
    }

    /** "goes on from HOUR (beyond 9999, too)": of HOUR 10002 h is 6, HOUR 10000 is even. */
    static void promise28_beyond9999() {
        LowWater x = Make.go(one(0, 1, 0, 0), 9999);
        looked(x, 3, NEVER);
        looked(x, 4, 0);
        looked(x, 60, 0);
        looked(x, 51, NEVER);
        LowWater y = Make.go(one(6, 4, 3, 1), 9999);
        looked(y, 0, 0);
        looked(y, 1, NEVER);
        LowWater w = Make.go(one(6, 4, 3, 2), 9999);
        looked(w, 1, 0);
        looked(w, 3, NEVER);
        LowWater z = Make.go(one(6, 4, 6, 0), 9999);
        looked(z, 3, NEVER);
        looked(z, 4, 0);
    }

    /** "is asked .. and changes nothing". */
    static void promise28_changesNothing() {
        LowWater x = Make.full();
        String was = Make.look(x);
        int looked = x.looked();
        due.is("looked() again", x.looked(), looked);
        due.same("looked", Make.look(x), was);
    }
}
