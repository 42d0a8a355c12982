/** Promises 13 to 19: of each sentence that names an edge (quoted ahead of its test) a test of its own. */
public final class EdgesOfReadingTest {
    private static final int NONE = -1, BAD = -2, FULL = -4, NEVER = -5;
    private static final int LOW = Integer.MIN_VALUE, HIGH = Integer.MAX_VALUE;
    /** LEVEL is 9, but at those HOURS of the first 168. */
    private static final String AT_59 = "swell 99 !(h=11&d=4)", AT_60 = "swell 99 !(h=0&d=5)";
    private static final String AT_0_AND_60 = "swell 99 !(h=0&(d=0|d=5))", AT_0_AND_61 = "swell 99 !(h=0&d=0|h=1&d=5)";
    private static final String NEVER_DRY = "swell 9 h<99", ALWAYS_0 = "ebb 9 h<99";
    private static final Due due = new Due();

    public static void main(String[] args) {
        Tests.run(EdgesOfReadingTest.class, due);
    }

    /** A new object, no CAVE, one SLATE, one READER. LEVEL: 6 5 4 3 2 1 0 1 2 3 4 5 from HOUR 0 on. */
    private static LowWater one(int shelf, int lines, int kind, int v) {
        return Make.readers(Make.slates(new LowWater(), shelf, lines), kind, v);
    }

    private static LowWater oneUnder(String cave, int shelf, int lines, int kind, int v) {
        return Make.readers(Make.slates(Make.under(cave), shelf, lines), kind, v);
    }

    /** So many SLATES of 1 line on SHELF 8, a READER of KIND 0. */
    private static LowWater dry(int slates) {
        LowWater x = Make.readers(new LowWater(), 0, 0);
        for (int i = 0; i < slates; i++) {
            x.slate(8, 1);
        }
        return x;
    }

    private static void soon(LowWater x, int want) {
        due.is("soon(0, 0) at HOUR " + x.told(0), x.soon(0, 0), want);
    }

    private static void row(LowWater x, int reader, int set, int hours, int... slates) {
        due.is("set(" + reader + ", " + set + ", -1)", x.set(reader, set, -1), hours);
        for (int k = 0; k < 6; k++) {
            int want = k < slates.length ? slates[k] : NEVER;
            due.is("set(" + reader + ", " + set + ", " + k + ")", x.set(reader, set, k), want);
        }
    }

    private static void two(LowWater x, int one, int other, int set, int hours, int bits) {
        String call = "two(" + one + ", " + other + ", " + set + ", ";
        due.is(call + "0)", x.two(one, other, set, 0), hours);
        due.is(call + "1)", x.two(one, other, set, 1), bits);
    }

    // ---- promise 13

    /** "A SHELF is DRY at an HOUR, if LEVEL is its number or less": LEVEL is its number, is 1 more. */
    static void promise13_dryAtItsOwnNumber() {
        soon(one(6, 1, 0, 0), 1);
        soon(one(5, 1, 0, 0), 2);
        soon(one(0, 1, 0, 0), 7);
        soon(Make.go(one(0, 1, 0, 0), 6), 1);
        soon(Make.go(one(0, 1, 0, 0), 7), 12);
    }

    /** "its SHELF must be open at each of these HOURS": also at the last one. */
    static void promise13_openAtTheLastHour() {
        soon(one(1, 3, 0, 0), 8);
        soon(one(1, 4, 0, 0), NEVER);
        soon(one(0, 2, 0, 0), NEVER);
        soon(Make.go(one(2, 4, 0, 0), 5), 4);
        soon(Make.go(one(2, 4, 0, 0), 6), 14);
    }

    /** "its SHELF must be open at each of these HOURS": also at the first one. */
    static void promise13_openAtTheFirstHour() {
        soon(one(2, 4, 0, 0), 8);
        soon(Make.go(one(1, 2, 0, 0), 5), 2);
        soon(Make.go(one(1, 2, 0, 0), 4), 3);
    }

    /** "its SHELF must be open at each of these HOURS": also between. */
    static void promise13_openBetween() {
        soon(oneUnder("swell 9 h=2", 8, 4, 0, 0), 7);
        soon(oneUnder("swell 9 h=2", 8, 2, 0, 0), 2);
    }

    /** "(60 at most": read at the 60th HOUR. */
    static void promise13_sixtyHours() {
        soon(oneUnder(AT_59, 8, 1, 0, 0), 60);
        soon(Make.go(oneUnder(AT_60, 8, 1, 0, 0), 1), 60);
    }

    /** "-5: not by then)": it would be the 61st. */
    static void promise13_sixtyOneHours() {
        soon(oneUnder(AT_60, 8, 1, 0, 0), NEVER);
        soon(oneUnder(NEVER_DRY, 8, 1, 0, 0), NEVER);
    }

    /** "(60 at most; -5: not by then)": till it is read, not till it is begun. */
    static void promise13_sixtyHoursOf4Lines() {
        soon(oneUnder("swell 99 !(h>7&d=4)", 8, 4, 0, 0), 60);
        soon(oneUnder("swell 99 !(h>8&d=4|h=0&d=5)", 8, 4, 0, 0), NEVER);
        soon(Make.go(oneUnder("swell 99 !(h>8&d=4|h=0&d=5)", 8, 4, 0, 0), 1), 60);
    }

    /** "FAST: the half of these, rounded up": 1 of 1 and 2, 2 of 3 and 4. */
    static void promise13_fast() {
        soon(one(0, 1, 1, 0), 7);
        soon(one(0, 2, 1, 0), 7);
        soon(one(0, 3, 1, 0), NEVER);
        soon(one(1, 3, 1, 0), 7);
        soon(one(1, 4, 1, 0), 7);
    }

    /** "QUICK: as FAST, 1 less, if v is above 4 (1 at least)". */
    static void promise13_quick() {
        soon(one(0, 4, 4, 4), NEVER);
        soon(one(0, 4, 4, 5), 7);
        soon(one(0, 3, 4, 9), 7);
        soon(one(0, 1, 4, 9), 7);
        soon(one(6, 1, 4, 5), 1);
    }

    /** "BLIND: twice its LINES": 8 of 4. */
    static void promise13_blind() {
        soon(one(1, 1, 5, 0), 7);
        soon(one(0, 1, 5, 0), NEVER);
        soon(one(1, 2, 5, 0), NEVER);
        soon(one(4, 4, 5, 0), 10);
        soon(one(3, 4, 5, 0), NEVER);
        soon(oneUnder("swell 99 !(h>3&d=4)", 8, 4, 5, 0), 60);
        soon(oneUnder("swell 99 !(h>4&d=4|h=0&d=5)", 8, 4, 5, 0), NEVER);
    }

    /** "to DIVER and BLIND ones also, if LEVEL is its number and (v modulo 3), together, or less": v modulo 3 wraps. */
    static void promise13_diverVModulo3() {
        int[] want = {7, 6, 5, 7, 6, 5, 7, 6, 5, 7};
        for (int v = 0; v <= 9; v++) {
            soon(one(0, 1, 2, v), want[v]);
        }
    }

    /** "to DIVER and BLIND ones also": BLIND. */
    static void promise13_blindVModulo3() {
        soon(one(0, 1, 5, 1), 7);
        soon(one(0, 1, 5, 2), 6);
        soon(one(0, 1, 5, 3), NEVER);
        soon(one(0, 1, 5, 9), NEVER);
        soon(one(1, 2, 5, 4), 8);
    }

    /** "to DIVER and BLIND ones also": to no other KIND, whatever its v. */
    static void promise13_noOtherDives() {
        for (int kind : new int[] {0, 1, 3, 4, 6}) {
            soon(one(0, 1, kind, 2), 7);
        }
    }

    /** "its number and (v modulo 3), together": of the highest SHELF, LEVEL at its bound. */
    static void promise13_diverAboveTheHighestShelf() {
        soon(oneUnder(NEVER_DRY, 8, 1, 2, 0), NEVER);
        soon(oneUnder(NEVER_DRY, 8, 1, 2, 1), 1);
        soon(oneUnder(NEVER_DRY, 8, 1, 2, 2), 1);
        soon(oneUnder(NEVER_DRY, 7, 1, 2, 1), NEVER);
        soon(oneUnder(NEVER_DRY, 7, 1, 2, 2), 1);
        soon(oneUnder(NEVER_DRY, 8, 4, 5, 1), 8);
    }

    /** "if HOUR is a multiple of (v modulo 3, and 1, together)": v modulo 3 wraps; of 1 each HOUR is one. */
    static void promise13_rowedVModulo3() {
        int[] want = {1, 2, 3, 1, 2, 3, 1, 2, 3, 1};
        for (int v = 0; v <= 9; v++) {
            soon(Make.go(one(6, 1, 3, v), 1), want[v]);
        }
    }

    /** "if HOUR is a multiple": HOUR 0 is one of each. */
    static void promise13_rowedAtHour0() {
        for (int v = 0; v <= 9; v++) {
            soon(one(6, 1, 3, v), 1);
        }
    }

    /** "if HOUR is a multiple": the HOUR itself, not how many from now; of the first of its HOURS alone. */
    static void promise13_rowedByTheHourItself() {
        soon(Make.go(one(6, 1, 3, 2), 3), 1);
        soon(Make.go(one(6, 1, 3, 2), 4), 3);
        soon(Make.go(one(6, 4, 3, 2), 4), 6);
        soon(Make.go(one(6, 4, 3, 1), 13), 5);
    }

    /** "ROWED ..: only, if": the HOURS at which its SHELF is open are never those at which it may begin. */
    static void promise13_rowedNever() {
        soon(one(1, 3, 3, 0), 8);
        soon(one(1, 3, 3, 1), NEVER);
        soon(one(1, 2, 3, 1), 8);
        soon(one(1, 2, 3, 2), 8);
        soon(one(1, 3, 3, 3), 8);
    }

    /** "if besides LEVEL is not above that of the HOUR ahead": it is less, the same, above. */
    static void promise13_waitingForTheEbb() {
        soon(Make.go(one(6, 1, 6, 0), 6), 1);
        soon(Make.go(one(6, 1, 6, 0), 7), 7);
        soon(oneUnder(ALWAYS_0, 0, 1, 6, 0), 1);
        soon(Make.go(oneUnder(ALWAYS_0, 0, 1, 6, 0), 12), 1);
        soon(Make.go(oneUnder("ebb 1 h=7", 0, 1, 6, 0), 7), 1);
    }

    /** "if besides": as ROWED, too. */
    static void promise13_waitingIsRowed() {
        soon(Make.go(one(6, 1, 6, 0), 1), 1);
        soon(Make.go(one(6, 1, 6, 1), 1), 2);
        soon(Make.go(one(6, 1, 6, 2), 1), 3);
        soon(Make.go(one(6, 1, 6, 9), 1), 1);
    }

    /** "A READER may begin .. only, if": it goes on while LEVEL is above that of the HOUR ahead. */
    static void promise13_waitingGoesOn() {
        soon(Make.go(one(6, 4, 6, 0), 5), 4);
    }

    /** "(of HOUR 0: that of HOUR 11)": LEVEL is 6 at HOUR 0, 5 at HOUR 11, or more by a CAVE. */
    static void promise13_waitingAtHour0() {
        soon(one(6, 1, 6, 0), 2);
        soon(oneUnder("swell 1 h=11&d=0", 6, 1, 6, 0), 1);
        soon(oneUnder("swell 9 h=11&d=0", 6, 1, 6, 0), 1);
        soon(oneUnder("swell 9 h=11&d=13", 6, 1, 6, 0), 2);
    }

    /** "of the HOUR ahead (of HOUR 0: ..": of HOUR 12 and HOUR 168 that of HOUR 11 and HOUR 167. */
    static void promise13_waitingAtTheHourAhead() {
        soon(Make.go(oneUnder("swell 9 h=11&d=0", 6, 1, 6, 0), 12), 1);
        soon(Make.go(oneUnder("swell 9 h=11&d=0", 6, 1, 6, 0), 24), 2);
        soon(Make.go(oneUnder("swell 9 h=11&d=13", 6, 1, 6, 0), 168), 1);
    }

    /** "goes on from HOUR (beyond 9999, too)": of HOUR 10002 h is 6. */
    static void promise13_beyond9999() {
        soon(Make.go(one(0, 1, 0, 0), 9999), 4);
        soon(Make.go(one(1, 3, 0, 0), 9999), 5);
        soon(Make.go(one(6, 1, 3, 1), 9999), 2);
        soon(Make.go(one(6, 1, 3, 2), 9999), 1);
        soon(Make.go(one(2, 1, 3, 2), 9999), 4);
        soon(Make.go(one(6, 1, 6, 0), 9999), 1);
        soon(Make.go(oneUnder("swell 99 !(h=2&d=12)", 8, 1, 0, 0), 9999), 60);
        soon(Make.go(oneUnder("swell 99 !(h=3&d=12)", 8, 1, 0, 0), 9999), NEVER);
    }

    /** "NONE": no such READER. */
    static void promise13_noSuchReader() {
        LowWater x = one(8, 1, 0, 0);
        for (int reader : new int[] {LOW, -1, 1, 4, HIGH}) {
            due.is("soon(" + reader + ", 0)", x.soon(reader, 0), NONE);
        }
        due.is("soon(0, 0) of nothing", new LowWater().soon(0, 0), NONE);
        due.is("soon(4, 0) of all", Make.full().soon(4, 0), NONE);
    }

    /** "NONE": no such SLATE. */
    static void promise13_noSuchSlate() {
        LowWater x = one(8, 1, 0, 0);
        for (int slate : new int[] {LOW, -1, 1, 6, HIGH}) {
            due.is("soon(0, " + slate + ")", x.soon(0, slate), NONE);
        }
        due.is("soon(0, 6) of all", Make.full().soon(0, 6), NONE);
    }

    /** "is asked .. and changes nothing". */
    static void promise13_changesNothing() {
        LowWater x = Make.library();
        String was = Make.look(x);
        x.soon(0, 0);
        x.soon(2, 2);
        x.soon(9, 9);
        due.same("soon", Make.look(x), was);
    }

    // ---- promise 14

    /** "SET (bits)": no SLATE. */
    static void promise14_emptySet() {
        row(dry(2), 0, 0, 0);
        row(Make.readers(new LowWater(), 0, 0), 0, 0, 0);
        row(one(0, 2, 0, 0), 0, 0, 0);
    }

    /** "SET (bits)": one SLATE, as it is SOON. */
    static void promise14_setOfOne() {
        LowWater x = Make.readers(Make.slates(new LowWater(), 8, 1, 0, 1), 0, 0);
        row(x, 0, 1, 1, 0);
        row(x, 0, 2, 7, 1);
    }

    /** "SET (bits)": all six SLATES. */
    static void promise14_setOfSix() {
        row(dry(6), 0, 63, 6, 0, 1, 2, 3, 4, 5);
        row(dry(6), 0, 32, 1, 5);
        LowWater x = Make.readers(Make.slates(new LowWater(), 0, 1, 1, 1, 2, 1, 3, 1, 4, 1, 5, 1), 0, 0);
        Make.go(x, 1);
        row(x, 0, 63, 6, 5, 4, 3, 2, 1, 0);
    }

    /** "BAD: set": a bit of no SLATE. */
    static void promise14_bitsOfNoSlate() {
        for (int slates = 0; slates <= 6; slates++) {
            LowWater x = dry(slates);
            due.is("set(0, " + ((1 << slates) - 1) + ", -1)", x.set(0, (1 << slates) - 1, -1), slates);
            due.is("set(0, " + (1 << slates) + ", -1)", x.set(0, 1 << slates, -1), BAD);
            due.is("set(0, " + (1 << slates) + ", 0)", x.set(0, 1 << slates, 0), BAD);
        }
    }

    /** "BAD: set": less than no bit, and far above them all. */
    static void promise14_setTooSmallAndTooLarge() {
        LowWater x = dry(6);
        for (int set : new int[] {LOW, LOW + 1, -64, -1, 64, 65, 127, 1 << 30, HIGH}) {
            due.is("set(0, " + set + ", -1)", x.set(0, set, -1), BAD);
            due.is("set(0, " + set + ", 0)", x.set(0, set, 0), BAD);
        }
    }

    /** "NONE: .. k (-1 .. 5)": too small. */
    static void promise14_kTooSmall() {
        LowWater x = dry(6);
        due.is("set(0, 63, -2)", x.set(0, 63, -2), NONE);
        due.is("set(0, 63, LOW)", x.set(0, 63, LOW), NONE);
    }

    /** "NONE: .. k (-1 .. 5)": the ends. */
    static void promise14_kAtTheEnds() {
        LowWater x = dry(6);
        due.is("set(0, 63, -1)", x.set(0, 63, -1), 6);
        due.is("set(0, 63, 0)", x.set(0, 63, 0), 0);
        due.is("set(0, 63, 5)", x.set(0, 63, 5), 5);
    }

    /** "NONE: .. k (-1 .. 5)": too large. */
    static void promise14_kTooLarge() {
        LowWater x = dry(6);
        due.is("set(0, 63, 6)", x.set(0, 63, 6), NONE);
        due.is("set(0, 63, HIGH)", x.set(0, 63, HIGH), NONE);
    }

    /** "(-5: there are fewer": k just behind the last one, and as far as it goes. */
    static void promise14_fewer() {
        LowWater x = dry(6);
        due.is("set(0, 40, 1)", x.set(0, 40, 1), 5);
        due.is("set(0, 40, 2)", x.set(0, 40, 2), NEVER);
        due.is("set(0, 40, 5)", x.set(0, 40, 5), NEVER);
        due.is("set(0, 31, 5)", x.set(0, 31, 5), NEVER);
        due.is("set(0, 0, 0)", x.set(0, 0, 0), NEVER);
    }

    /** "(-5: by none)": one SLATE of the set is not read in any order. */
    static void promise14_byNone() {
        LowWater x = Make.readers(Make.slates(new LowWater(), 8, 1, 0, 2, 8, 1), 0, 0);
        row(x, 0, 7, NEVER);
        row(x, 0, 2, NEVER);
        row(x, 0, 5, 2, 0, 2);
    }

    /** "of several the first as a row": all orders alike. */
    static void promise14_severalAllAlike() {
        row(dry(3), 0, 7, 3, 0, 1, 2);
        LowWater x = Make.readers(Make.slates(new LowWater(), 8, 4, 8, 3, 8, 2, 8, 1), 0, 0);
        row(x, 0, 15, 10, 0, 1, 2, 3);
        row(x, 0, 14, 6, 1, 2, 3);
    }

    /** "of several the first as a row": behind a first SLATE that has to be it. */
    static void promise14_severalBehindTheFirst() {
        LowWater x = Make.readers(Make.slates(new LowWater(), 8, 1, 0, 1, 8, 1), 0, 0);
        row(Make.go(x, 6), 0, 7, 3, 1, 0, 2);
    }

    /** "that by which all are read soonest": a later row that is sooner goes ahead of an earlier one. */
    static void promise14_soonestAheadOfTheFirstRow() {
        LowWater x = Make.go(Make.readers(Make.slates(new LowWater(), 8, 1, 0, 1), 0, 0), 1);
        row(x, 0, 3, 6, 0, 1);
        row(Make.go(x, 6), 0, 3, 2, 1, 0);
    }

    /** "(each SLATE within 60 HOURS of the end of the one ahead)": at the 60th, far above 60 together. */
    static void promise14_sixtyHoursFromTheEndOfTheOneAhead() {
        row(Make.readers(Make.slates(Make.under(AT_0_AND_60), 8, 1, 8, 1), 0, 0), 0, 3, 61, 0, 1);
    }

    /** "(each SLATE within 60 HOURS of the end of the one ahead)": at the 61st it is not. */
    static void promise14_sixtyOneHoursFromTheEndOfTheOneAhead() {
        row(Make.readers(Make.slates(Make.under(AT_0_AND_61), 8, 1, 8, 1), 0, 0), 0, 3, NEVER);
    }

    /** "(each SLATE within 60 HOURS": the first one from now. */
    static void promise14_sixtyHoursOfTheFirst() {
        row(oneUnder(AT_59, 8, 1, 0, 0), 0, 1, 60, 0);
        row(oneUnder(AT_60, 8, 1, 0, 0), 0, 1, NEVER);
    }

    /** "each as SOON as can be": none is begun later, though by that another one would be within its 60 HOURS. */
    static void promise14_noneIsBegunLater() {
        String cave = "swell 2 h<2&d=0;swell 1 h=1&d=0;swell 99 !(h<2&d=0|h=1&d=5)";
        LowWater x = Make.readers(Make.slates(Make.under(cave), 8, 1, 7, 1), 0, 0);
        row(x, 0, 3, NEVER);
        row(Make.go(x, 1), 0, 3, 61, 0, 1);
    }

    /** "of all orders": 0 and 1 are read sooner as 0, 1 than as 1, 0, but 2 is within 60 HOURS of the later end alone. */
    static void promise14_laterEndOfTheOnesAhead() {
        row(laterIsBetter(), 0, 3, 2, 0, 1);
        row(laterIsBetter(), 0, 4, NEVER);
        row(laterIsBetter(), 0, 5, NEVER);
        row(laterIsBetter(), 0, 7, 63, 1, 0, 2);
    }

    /** LEVEL is 3, 5, 9 .. at HOURS 0, 1, 2 .., 3 at HOUR 30, 0 at HOUR 62, else 9 till HOUR 71. */
    private static LowWater laterIsBetter() {
        String cave = "ebb 3 h=0&d=0;swell 99 d=0&h>1|d=1|d=2&!h=6|d>2&d<5|d=5&!h=2;swell 3 d=2&h=6;ebb 9 d=5";
        return Make.readers(Make.slates(Make.under(cave), 3, 1, 6, 1, 0, 1), 0, 0, 0, 0);
    }

    /** "(each SLATE within 60 HOURS of the end of the one ahead)": far above 60 together. */
    static void promise14_farApart() {
        String cave = "swell 99 !(h=0&(d=0|d=5|d=10))";
        LowWater x = Make.readers(Make.slates(Make.under(cave), 8, 1, 8, 1, 8, 1, 8, 1), 0, 0);
        row(x, 0, 7, 121, 0, 1, 2);
        row(x, 0, 15, 169, 0, 1, 2, 3);
    }

    /** "(each SLATE within 60 HOURS of the end of the one ahead)": each of the six at the 60th. */
    static void promise14_asFarApartAsCanBe() {
        LowWater x = Make.readers(Make.slates(Make.under("swell 99 !(h=11&m=4)"), 8, 1, 8, 1, 8, 1, 8, 1, 8, 1, 8, 1), 0, 0);
        row(x, 0, 1, 60, 0);
        row(x, 0, 63, 360, 0, 1, 2, 3, 4, 5);
        x.put(3, 0);
        row(x, 0, 63, NEVER);
    }

    /** "of several the first one told": NONE ahead of BAD. */
    static void promise14_noneAheadOfBad() {
        LowWater x = dry(2);
        due.is("set(1, 4, 0)", x.set(1, 4, 0), NONE);
        due.is("set(-1, -1, 0)", x.set(-1, -1, 0), NONE);
        due.is("set(0, 4, 6)", x.set(0, 4, 6), NONE);
        due.is("set(0, -1, -2)", x.set(0, -1, -2), NONE);
        due.is("set(0, 4, 0)", x.set(0, 4, 0), BAD);
    }

    /** "NONE: reader". */
    static void promise14_noSuchReader() {
        LowWater x = dry(2);
        for (int reader : new int[] {LOW, -1, 1, 4, HIGH}) {
            due.is("set(" + reader + ", 0, -1)", x.set(reader, 0, -1), NONE);
        }
    }

    /** "goes on from HOUR (beyond 9999, too)". */
    static void promise14_beyond9999() {
        LowWater x = Make.go(Make.readers(Make.slates(new LowWater(), 0, 1, 0, 1, 3, 2), 0, 0), 9999);
        row(x, 0, 3, 16, 0, 1);
        row(x, 0, 7, 16, 0, 2, 1);
    }

    /** "is asked .. and changes nothing". */
    static void promise14_changesNothing() {
        LowWater x = Make.library();
        String was = Make.look(x);
        x.set(0, 7, -1);
        x.set(3, 5, 1);
        x.set(0, 8, 0);
        due.same("set", Make.look(x), was);
        due.is("of(0, 0)", x.of(0, 0), 6);
    }

    /** An asking leaves nothing to the next one: of fewer SLATES, of another READER, at another HOUR. */
    static void promise14_eachAskingByItself() {
        LowWater x = Make.readers(Make.slates(new LowWater(), 0, 1, 8, 1, 8, 1), 0, 0, 2, 2);
        row(x, 0, 7, 7, 1, 2, 0);
        row(x, 1, 7, 5, 1, 2, 0);
        row(x, 0, 6, 2, 1, 2);
        x.hours(6);
        row(x, 0, 7, 3, 0, 1, 2);
        x.put(0, 8);
        x.put(1, 0);
        row(x, 0, 7, 3, 1, 0, 2);
    }

    /** "An object is used for at most 512 calls": the last asking is answered as the first one is. */
    static void promise14_toThe512thCall() {
        LowWater x = Make.readers(Make.slates(new LowWater(), 8, 2, 8, 4), 0, 0, 1, 0);
        for (int calls = 4; calls + 3 <= 512; calls += 3) {
            due.is("set(0, 3, -1) behind " + calls + " calls", x.set(0, 3, -1), 6);
            due.is("set(1, 3, -1)", x.set(1, 3, -1), 3);
            due.is("set(0, 3, 1)", x.set(0, 3, 1), 1);
        }
    }

    // ---- promise 15

    /** "(.. nothing: 0)": a set of nothing. */
    static void promise15_emptySet() {
        two(Make.readers(new LowWater(), 0, 0, 0, 0), 0, 1, 0, 0, 0);
        two(Make.library(), 0, 3, 0, 0, 0);
    }

    /** "(.. nothing: 0)": nothing for one of the two. */
    static void promise15_nothingForOne() {
        LowWater x = Make.readers(Make.slates(new LowWater(), 0, 2), 0, 0, 2, 1);
        two(x, 0, 1, 1, 7, 0);
        two(x, 1, 0, 1, 7, 1);
    }

    /** "both are done": the later of the two, not both together. */
    static void promise15_theLaterOfTheTwo() {
        LowWater x = Make.readers(Make.slates(new LowWater(), 8, 3, 8, 2), 0, 0, 0, 0);
        two(x, 0, 1, 3, 3, 1);
    }

    /** "of several the least as bits". */
    static void promise15_theLeastBits() {
        LowWater x = Make.readers(Make.slates(new LowWater(), 8, 1, 8, 1, 8, 1, 8, 1), 0, 0, 0, 0);
        two(x, 0, 1, 1, 1, 0);
        two(x, 0, 1, 8, 1, 0);
        two(x, 0, 1, 10, 1, 2);
        two(x, 0, 1, 7, 2, 1);
        two(x, 0, 1, 15, 2, 3);
    }

    /** "of several the least as bits": what the one told first reads, whichever its number is. */
    static void promise15_theOneToldFirst() {
        LowWater x = Make.readers(Make.slates(new LowWater(), 8, 4, 8, 1), 0, 0, 1, 0);
        two(x, 0, 1, 3, 2, 2);
        two(x, 1, 0, 3, 2, 1);
    }

    /** "(-5: none)": by no way are both done. */
    static void promise15_byNoWay() {
        LowWater x = Make.readers(Make.slates(new LowWater(), 8, 1, 0, 2), 0, 0, 3, 0);
        two(x, 0, 1, 3, NEVER, NEVER);
        two(x, 0, 1, 2, NEVER, NEVER);
        two(x, 1, 0, 1, 1, 0);
    }

    /** "each as of its own SET": within 60 HOURS of the end of the one ahead, for each of the two. */
    static void promise15_sixtyHours() {
        LowWater x = Make.readers(Make.slates(Make.under(AT_0_AND_60), 8, 1, 8, 1, 8, 1, 8, 1, 8, 1), 0, 0, 0, 0);
        two(x, 0, 1, 3, 1, 1);
        two(x, 0, 1, 7, 61, 1);
        two(x, 0, 1, 15, 61, 3);
        two(x, 0, 1, 31, NEVER, NEVER);
    }

    /** "each as of its own SET": at the 61st HOUR it is not. */
    static void promise15_sixtyOneHours() {
        LowWater x = Make.readers(Make.slates(Make.under(AT_0_AND_61), 8, 1, 8, 1, 8, 1), 0, 0, 0, 0);
        two(x, 0, 1, 3, 1, 1);
        two(x, 0, 1, 7, NEVER, NEVER);
    }

    /** "each as of its own SET": of all orders, not of the ones soonest of fewer SLATES. */
    static void promise15_laterEndOfTheOnesAhead() {
        two(laterIsBetter(), 0, 1, 7, 63, 0);
        two(laterIsBetter(), 0, 1, 4, NEVER, NEVER);
    }

    /** "to part it between the two": all six to one of them, nothing to the other. */
    static void promise15_allToOne() {
        LowWater x = Make.readers(Make.under(NEVER_DRY), 0, 0, 2, 1);
        for (int i = 0; i < 6; i++) {
            x.slate(8, 1);
        }
        two(x, 0, 1, 63, 6, 0);
        two(x, 1, 0, 63, 6, 63);
    }

    /** "BAD: one READER": also with a set of nothing. */
    static void promise15_oneReader() {
        LowWater x = Make.library();
        for (int reader = 0; reader < 4; reader++) {
            due.is("two(same, same, 7, 0)", x.two(reader, reader, 7, 0), BAD);
            due.is("two(same, same, 0, 1)", x.two(reader, reader, 0, 1), BAD);
        }
    }

    /** "TWO unlike READERS", "BAD: one READER": two of the same KIND and v are not one. */
    static void promise15_twoAlike() {
        two(Make.readers(dry(2), 0, 0), 0, 1, 3, 1, 1);
    }

    /** "BAD: .. set": a bit of no SLATE, less than no bit. */
    static void promise15_badSet() {
        LowWater x = Make.readers(Make.slates(new LowWater(), 8, 1, 8, 1), 0, 0, 0, 0);
        for (int set : new int[] {LOW, -1, 4, 5, 64, HIGH}) {
            due.is("two(0, 1, " + set + ", 0)", x.two(0, 1, set, 0), BAD);
            due.is("two(0, 1, " + set + ", 1)", x.two(0, 1, set, 1), BAD);
        }
    }

    /** "SET .. (bits)": all six SLATES, and one more. */
    static void promise15_setOfSix() {
        LowWater x = Make.readers(dry(6), 0, 0);
        two(x, 0, 1, 63, 3, 7);
        two(x, 0, 1, 64, BAD, BAD);
    }

    /** "NONE": no such READER, either of them. */
    static void promise15_noSuchReader() {
        LowWater x = Make.readers(dry(2), 0, 0);
        for (int reader : new int[] {LOW, -1, 2, 4, HIGH}) {
            due.is("two(" + reader + ", 0, 3, 0)", x.two(reader, 0, 3, 0), NONE);
            due.is("two(0, " + reader + ", 3, 0)", x.two(0, reader, 3, 0), NONE);
        }
    }

    /** "NONE": no such what. */
    static void promise15_noSuchWhat() {
        LowWater x = Make.readers(dry(2), 0, 0);
        for (int what : new int[] {LOW, -1, 2, HIGH}) {
            due.is("two(0, 1, 3, " + what + ")", x.two(0, 1, 3, what), NONE);
        }
    }

    /** "of several the first one told": NONE ahead of BAD. */
    static void promise15_noneAheadOfBad() {
        LowWater x = Make.readers(dry(2), 0, 0);
        due.is("two(2, 2, 3, 0)", x.two(2, 2, 3, 0), NONE);
        due.is("two(-1, -1, -1, 0)", x.two(-1, -1, -1, 0), NONE);
        due.is("two(0, 0, 3, 2)", x.two(0, 0, 3, 2), NONE);
        due.is("two(0, 1, 4, -1)", x.two(0, 1, 4, -1), NONE);
        due.is("two(0, 2, 4, 0)", x.two(0, 2, 4, 0), NONE);
        due.is("two(0, 0, 4, 0)", x.two(0, 0, 4, 0), BAD);
    }

    /** "goes on from HOUR (beyond 9999, too)". */
    static void promise15_beyond9999() {
        LowWater x = Make.go(Make.readers(Make.slates(new LowWater(), 0, 1, 0, 1, 0, 1), 0, 0, 2, 1), 9999);
        two(x, 0, 1, 3, 4, 0);
        two(x, 1, 0, 3, 4, 1);
        two(x, 0, 1, 7, 4, 1);
    }

    /** "is asked .. and changes nothing". */
    static void promise15_changesNothing() {
        LowWater x = Make.library();
        String was = Make.look(x);
        x.two(0, 3, 7, 0);
        x.two(0, 0, 7, 0);
        x.two(1, 2, 5, 1);
        due.same("two", Make.look(x), was);
    }

    // ---- promise 16

    /** "so many HOURS from now (0 .. 24)": too small. "BAD: k". */
    static void promise16_kTooSmall() {
        LowWater x = dry(1);
        due.is("ask(0, 0, -1)", x.ask(0, 0, -1), BAD);
        due.is("ask(0, 0, LOW)", x.ask(0, 0, LOW), BAD);
    }

    /** "so many HOURS from now (0 .. 24)": the ends. */
    static void promise16_kAtTheEnds() {
        LowWater x = dry(1);
        due.is("ask(0, 0, 0)", x.ask(0, 0, 0), 1);
        due.is("ask(0, 0, 24)", x.ask(0, 0, 24), 2);
        due.is("waits()", x.waits(), 2);
    }

    /** "so many HOURS from now (0 .. 24)": too large. */
    static void promise16_kTooLarge() {
        LowWater x = dry(1);
        due.is("ask(0, 0, 25)", x.ask(0, 0, 25), BAD);
        due.is("ask(0, 0, 60)", x.ask(0, 0, 60), BAD);
        due.is("ask(0, 0, HIGH)", x.ask(0, 0, HIGH), BAD);
    }

    /** "8 at most"; "FULL". */
    static void promise16_eightAsks() {
        LowWater x = dry(1);
        for (int n = 1; n <= 8; n++) {
            due.is("ask(0, 0, 0)", x.ask(0, 0, 0), n);
        }
        due.is("ask(0, 0, 0)", x.ask(0, 0, 0), FULL);
        due.is("ask(0, 0, 24)", x.ask(0, 0, 24), FULL);
        due.is("count(3)", x.count(3), 8);
    }

    /** "(reader -1: none then, 0": of eight, of none. */
    static void promise16_noneThen() {
        LowWater x = Make.full();
        due.is("ask(-1, 0, 0)", x.ask(-1, 0, 0), 0);
        due.is("count(3)", x.count(3), 0);
        due.is("waits()", x.waits(), 0);
        due.is("ask(-1, 0, 0)", x.ask(-1, 0, 0), 0);
        due.is("ask(0, 0, 0)", x.ask(0, 0, 0), 1);
        due.is("ask(-1, 0, 0) of nothing", new LowWater().ask(-1, 0, 0), 0);
    }

    /** "whatever the others are)": no such SLATE, no such k, both. */
    static void promise16_whateverTheOthersAre() {
        int[][] others = {{-1, 0}, {LOW, 0}, {6, 0}, {HIGH, HIGH}, {0, -1}, {0, 25}, {0, LOW}, {-1, -1}};
        for (int[] other : others) {
            LowWater x = Make.library();
            due.is("ask(-1, " + other[0] + ", " + other[1] + ")", x.ask(-1, other[0], other[1]), 0);
            due.is("count(3)", x.count(3), 0);
        }
    }

    /** "reader -1: none then": no more than the ASKS. */
    static void promise16_noneThenOfTheAsksAlone() {
        LowWater x = Make.full();
        x.ask(-1, 0, 0);
        due.is("count(4)", x.count(4), 8);
        due.is("count(5)", x.count(5), 8);
        due.is("count(0)", x.count(0), 6);
        due.is("count(1)", x.count(1), 4);
    }

    /** "NONE": no such READER, of which -2 is one. */
    static void promise16_noSuchReader() {
        LowWater x = dry(1);
        for (int reader : new int[] {LOW, -2, 1, 4, HIGH}) {
            due.is("ask(" + reader + ", 0, 0)", x.ask(reader, 0, 0), NONE);
        }
        due.is("ask(0, 0, 0) without any", new LowWater().ask(0, 0, 0), NONE);
    }

    /** "NONE": no such SLATE. */
    static void promise16_noSuchSlate() {
        LowWater x = dry(1);
        for (int slate : new int[] {LOW, -1, 1, 6, HIGH}) {
            due.is("ask(0, " + slate + ", 0)", x.ask(0, slate, 0), NONE);
        }
    }

    /** "of several the first one told": NONE, BAD, FULL. */
    static void promise16_refusalsInTheirOrder() {
        LowWater x = Make.full();
        due.is("ask(4, 0, 25)", x.ask(4, 0, 25), NONE);
        due.is("ask(0, 6, 25)", x.ask(0, 6, 25), NONE);
        due.is("ask(0, -1, -1)", x.ask(0, -1, -1), NONE);
        due.is("ask(0, 6, 0)", x.ask(0, 6, 0), NONE);
        due.is("ask(0, 0, 25)", x.ask(0, 0, 25), BAD);
        due.is("ask(0, 0, -1)", x.ask(0, 0, -1), BAD);
        due.is("ask(0, 0, 24)", x.ask(0, 0, 24), FULL);
        due.is("ask(1, 6, 25) of one slate", dry(1).ask(0, 1, 25), NONE);
    }

    /** "They change nothing". */
    static void promise16_refusedChangesNothing() {
        LowWater x = Make.library();
        String was = Make.look(x);
        x.ask(4, 0, 0);
        x.ask(0, 3, 0);
        x.ask(0, 0, 25);
        x.ask(0, 0, -1);
        due.same("ask that is refused", Make.look(x), was);
        x = Make.full();
        was = Make.look(x);
        x.ask(0, 0, 0);
        x.ask(3, 5, 24);
        due.same("ask that is FULL", Make.look(x), was);
    }

    // ---- promise 17

    /** "WAITS ..: of each ASK .. together": of none. */
    static void promise17_ofNone() {
        due.is("waits()", new LowWater().waits(), 0);
        due.is("waits()", dry(6).waits(), 0);
    }

    /** "(61, if it is not)": SOON in 60, and not. */
    static void promise17_sixtyAndSixtyOne() {
        LowWater x = oneUnder(AT_59, 8, 1, 0, 0);
        x.ask(0, 0, 0);
        due.is("waits() for HOUR 59", x.waits(), 60);
        x = oneUnder(AT_60, 8, 1, 0, 0);
        x.ask(0, 0, 0);
        due.is("waits() for HOUR 60", x.waits(), 61);
        x.ask(0, 0, 1);
        due.is("waits() for HOUR 60, twice", x.waits(), 121);
    }

    /** "(61, if it is not)": of all eight. */
    static void promise17_eightOf61() {
        LowWater x = oneUnder(NEVER_DRY, 8, 1, 0, 0);
        for (int n = 1; n <= 8; n++) {
            x.ask(0, 0, 3 * n);
            due.is("waits()", x.waits(), 61 * n);
        }
    }

    /** "the HOURS from its own on": k 0, and up to k 24. */
    static void promise17_fromItsOwnHour() {
        int[] want = {7, 6, 5, 4, 3, 2, 1, 12, 11, 10, 9, 8, 7, 6, 5, 4, 3, 2, 1, 12, 11, 10, 9, 8, 7};
        for (int k = 0; k <= 24; k++) {
            LowWater x = one(0, 1, 0, 0);
            x.ask(0, 0, k);
            due.is("waits() of k " + k, x.waits(), want[k]);
        }
    }

    /** "the HOURS from its own on": SOON within 60 of it, 84 from now. */
    static void promise17_sixtyFromItsOwnHour() {
        LowWater x = oneUnder("swell 99 !(h=11&d=6)", 8, 1, 0, 0);
        x.ask(0, 0, 24);
        due.is("waits() for HOUR 83", x.waits(), 60);
        x.ask(0, 0, 23);
        due.is("waits() for HOUR 83, twice", x.waits(), 121);
    }

    /** "a READER, a SLATE": the last ones, and an ASK that is told twice. */
    static void promise17_lastOfAll() {
        LowWater x = Make.readers(dry(5), 0, 0, 0, 0, 5, 0);
        x.slate(0, 1);
        x.put(5, 6);
        x.ask(3, 5, 0);
        due.is("waits() of BLIND", x.waits(), 2);
        x.ask(3, 5, 0);
        due.is("waits() of the same twice", x.waits(), 4);
    }

    /** "a READER, a SLATE, so many HOURS from now": each one of these, the first and the last. */
    static void promise17_eachReaderEachSlate() {
        int[] level = {6, 5, 4, 3, 2, 1, 0, 1, 2, 3, 4, 5};
        LowWater x = Make.readers(new LowWater(), 2, 1, 2, 0, 2, 2, 3, 0);
        Make.slates(x, 0, 1, 1, 1, 2, 1, 3, 1, 4, 1, 5, 1);
        int[] dives = {1, 0, 2, 0};
        for (int reader = 0; reader < 4; reader++) {
            for (int slate = 0; slate < 6; slate++) {
                for (int k : new int[] {0, 8, 24}) {
                    int wait = 1;
                    while (level[(k + wait - 1) % 12] > slate + dives[reader]) {
                        wait++;
                    }
                    x.ask(-1, 0, 0);
                    x.ask(reader, slate, k);
                    due.is("waits() of READER " + reader + ", SLATE " + slate + ", k " + k, x.waits(), wait);
                }
            }
        }
    }

    /** "goes on from HOUR (beyond 9999, too)": 24 more is HOUR 10023, of which h is 3. */
    static void promise17_beyond9999() {
        LowWater x = Make.go(one(0, 1, 0, 0), 9999);
        x.ask(0, 0, 24);
        due.is("waits()", x.waits(), 4);
        x.ask(0, 0, 0);
        x.ask(0, 0, 1);
        due.is("waits()", x.waits(), 11);
    }

    /** "is asked .. and changes nothing". */
    static void promise17_changesNothing() {
        LowWater x = Make.full();
        String was = Make.look(x);
        int waits = x.waits();
        due.is("waits() again", x.waits(), waits);
        due.same("waits", Make.look(x), was);
    }

    // ---- promise 18

    /** "on which it would be waited for least": nothing is asked. */
    static void promise18_nothingAsked() {
        LowWater x = one(0, 1, 0, 0);
        due.is("shelve(0, 0)", x.shelve(0, 0), 8);
        due.is("shelve(0, 1)", x.shelve(0, 1), 0);
    }

    /** "(of several the greatest number)": of some SHELVES, of all. */
    static void promise18_theGreatestNumber() {
        LowWater x = one(0, 1, 0, 0);
        x.ask(0, 0, 1);
        due.is("shelve(0, 0)", x.shelve(0, 0), 8);
        due.is("shelve(0, 1)", x.shelve(0, 1), 1);
        x = oneUnder(ALWAYS_0, 3, 1, 0, 0);
        x.ask(0, 0, 0);
        due.is("shelve(0, 0), all alike", x.shelve(0, 0), 8);
        due.is("shelve(0, 1), all alike", x.shelve(0, 1), 1);
    }

    /** "by WAITS": 61 on each SHELF, the most that WAITS can be. */
    static void promise18_notSoonOnAny() {
        LowWater x = oneUnder(NEVER_DRY, 3, 1, 0, 0);
        for (int n = 1; n <= 8; n++) {
            x.ask(0, 0, n);
            due.is("shelve(0, 0)", x.shelve(0, 0), 8);
            due.is("shelve(0, 1)", x.shelve(0, 1), 61 * n);
        }
    }

    /** "waited for least, by WAITS": on the last SHELF alone, and by a DIVER above it. */
    static void promise18_onTheLastShelfAlone() {
        LowWater x = oneUnder("swell 8 h<99;ebb 6 h=0", 0, 1, 0, 0);
        x.ask(0, 0, 0);
        due.is("shelve(0, 0)", x.shelve(0, 0), 8);
        due.is("shelve(0, 1)", x.shelve(0, 1), 1);
        x = oneUnder(NEVER_DRY, 0, 1, 2, 1);
        x.ask(0, 0, 0);
        due.is("shelve(0, 0) of a DIVER", x.shelve(0, 0), 8);
        due.is("shelve(0, 1) of a DIVER", x.shelve(0, 1), 1);
    }

    /** "how much that is": WAITS, the other SLATES' too; of a SLATE that is not asked for. */
    static void promise18_howMuch() {
        LowWater x = Make.readers(Make.slates(new LowWater(), 0, 1, 0, 1, 0, 2), 0, 0);
        x.ask(0, 0, 0);
        x.ask(0, 1, 6);
        due.is("shelve(0, 1)", x.shelve(0, 1), 2);
        due.is("shelve(1, 1)", x.shelve(1, 1), 8);
        due.is("shelve(2, 0)", x.shelve(2, 0), 8);
        due.is("shelve(2, 1)", x.shelve(2, 1), 8);
        x.ask(0, 2, 0);
        due.is("shelve(0, 1)", x.shelve(0, 1), 63);
        due.is("shelve(2, 1)", x.shelve(2, 1), 10);
    }

    /** "NONE": no such SLATE. */
    static void promise18_noSuchSlate() {
        LowWater x = dry(2);
        for (int slate : new int[] {LOW, -1, 2, 6, HIGH}) {
            due.is("shelve(" + slate + ", 0)", x.shelve(slate, 0), NONE);
            due.is("shelve(" + slate + ", 1)", x.shelve(slate, 1), NONE);
        }
        due.is("shelve(6, 0) of all", Make.full().shelve(6, 0), NONE);
        due.is("shelve(5, 0) of all", Make.full().shelve(5, 0), 8);
    }

    /** "NONE": no such what. */
    static void promise18_noSuchWhat() {
        LowWater x = dry(2);
        for (int what : new int[] {LOW, -1, 2, HIGH}) {
            due.is("shelve(0, " + what + ")", x.shelve(0, what), NONE);
        }
    }

    /** "goes on from HOUR (beyond 9999, too)": of HOUR 10002 h is 6. */
    static void promise18_beyond9999() {
        LowWater x = Make.go(oneUnder("swell 9 h<99&!(h=6&m=2)", 0, 1, 0, 0), 9999);
        x.ask(0, 0, 0);
        due.is("shelve(0, 1)", x.shelve(0, 1), 4);
    }

    /** "is asked .. and changes nothing": the SLATE stays where it is. */
    static void promise18_changesNothing() {
        LowWater x = Make.full();
        String was = Make.look(x);
        for (int slate = 0; slate < 6; slate++) {
            x.shelve(slate, 0);
            x.shelve(slate, 1);
        }
        due.same("shelve", Make.look(x), was);
        due.is("of(2, 0)", x.of(2, 0), 0);
    }

    // ---- promise 19

    /** "of pairs of SLATES": there is none of nothing, none of one SLATE. */
    static void promise19_noPair() {
        due.is("change()", new LowWater().change(), NEVER);
        LowWater x = one(0, 1, 0, 0);
        x.ask(0, 0, 0);
        due.is("change()", x.change(), NEVER);
    }

    /** "(.. none, if WAITS are not less by it)": nothing is asked. */
    static void promise19_nothingAsked() {
        due.is("change()", Make.slates(dry(5), 0, 4).change(), NEVER);
    }

    /** "(.. none, if WAITS are not less by it)": by 1 they are, by 0 not. */
    static void promise19_notLess() {
        LowWater x = Make.readers(Make.slates(new LowWater(), 5, 1, 6, 1), 0, 0);
        x.ask(0, 0, 0);
        due.is("change(), less by 1", x.change(), 1);
        x.ask(0, 1, 0);
        due.is("change(), as much", x.change(), NEVER);
        x.ask(0, 1, 0);
        due.is("change(), more", x.change(), NEVER);
    }

    /** "(.. none, if WAITS are not less by it)": on one SHELF both; not SOON on either. */
    static void promise19_onOneShelf() {
        LowWater x = Make.readers(Make.slates(new LowWater(), 0, 1, 0, 3), 0, 0);
        x.ask(0, 0, 0);
        x.ask(0, 1, 0);
        due.is("change()", x.change(), NEVER);
        x = Make.readers(Make.slates(Make.under(NEVER_DRY), 0, 1, 8, 3), 0, 0);
        x.ask(0, 0, 0);
        due.is("change(), not SOON", x.change(), NEVER);
    }

    /** "their SHELVES changed with one another": both are, and the other one's ASKS count. */
    static void promise19_bothShelvesChange() {
        LowWater x = Make.readers(Make.slates(new LowWater(), 0, 1, 6, 2, 4, 1), 0, 0);
        x.ask(0, 0, 0);
        x.ask(0, 1, 0);
        due.is("change()", x.change(), 2);
    }

    /** "(of several the first by the lesser": of 02 and 12. */
    static void promise19_firstByTheLesser() {
        LowWater x = Make.readers(Make.slates(new LowWater(), 8, 1, 8, 1, 0, 1), 0, 0);
        x.ask(0, 2, 0);
        due.is("change()", x.change(), 2);
    }

    /** "then the other": of 01, 02, 03; of 12, 13. */
    static void promise19_firstByTheOther() {
        LowWater x = Make.readers(Make.slates(new LowWater(), 0, 1, 8, 1, 8, 1, 8, 1), 0, 0);
        x.ask(0, 0, 0);
        due.is("change()", x.change(), 1);
        x = Make.readers(Make.slates(new LowWater(), 0, 1, 0, 1, 8, 1, 8, 1), 0, 0);
        x.ask(0, 1, 0);
        due.is("change()", x.change(), 12);
    }

    /** "the first by the lesser, then the other": 03 goes ahead of 12. */
    static void promise19_theLesserAheadOfTheOther() {
        LowWater x = Make.readers(Make.slates(new LowWater(), 4, 1, 8, 1, 0, 1, 0, 1), 0, 0);
        x.ask(0, 3, 2);
        x.ask(0, 3, 5);
        x.ask(0, 2, 1);
        due.is("waits()", x.waits(), 13);
        due.is("change()", x.change(), 3);
    }

    /** "WAITS are least": a later pair by which they are less goes ahead of an earlier one. */
    static void promise19_leastAheadOfTheFirst() {
        LowWater x = Make.readers(Make.slates(new LowWater(), 0, 1, 3, 1, 8, 1), 0, 0);
        x.ask(0, 0, 0);
        due.is("change()", x.change(), 2);
    }

    /** "10 times the lesser, and the other": of the last two; of lesser 0 the other alone. */
    static void promise19_theLastPair() {
        LowWater x = Make.readers(Make.slates(new LowWater(), 0, 1, 0, 1, 0, 1, 0, 1, 8, 1, 0, 1), 0, 0);
        x.ask(0, 5, 0);
        due.is("change()", x.change(), 45);
        x = Make.readers(Make.slates(new LowWater(), 8, 1, 0, 1, 0, 1, 0, 1, 0, 1, 0, 1), 0, 0);
        x.ask(0, 5, 0);
        due.is("change()", x.change(), 5);
    }

    /** "(61, if it is not)": SOON on the other SHELF, and not on its own. */
    static void promise19_lessThan61() {
        LowWater x = Make.readers(Make.slates(Make.under(AT_59), 8, 1, 0, 1), 0, 0);
        x.ask(0, 1, 0);
        due.is("waits()", x.waits(), 61);
        due.is("change()", x.change(), 1);
    }

    /** "goes on from HOUR (beyond 9999, too)": LEVEL is 3 at HOUR 9999, 2 at HOUR 10000. */
    static void promise19_beyond9999() {
        LowWater x = Make.go(Make.readers(Make.slates(new LowWater(), 2, 1, 1, 1), 0, 0), 9999);
        x.ask(0, 1, 0);
        x.ask(0, 1, 1);
        due.is("waits()", x.waits(), 5);
        due.is("change()", x.change(), 1);
        x = Make.go(Make.readers(Make.slates(Make.under("swell 9 h=4&d=7"), 2, 1, 1, 1), 0, 0), 9999);
        x.ask(0, 1, 0);
        due.is("change()", x.change(), NEVER);
    }

    /** "is asked .. and changes nothing": the two stay where they are. */
    static void promise19_changesNothing() {
        LowWater x = Make.readers(Make.slates(new LowWater(), 0, 1, 8, 1), 0, 0);
        x.ask(0, 0, 0);
        x.change();
        due.is("of(0, 0)", x.of(0, 0), 0);
        due.is("of(1, 0)", x.of(1, 0), 8);
        due.is("waits()", x.waits(), 7);
        due.is("change() again", x.change(), 1);
    }
}
