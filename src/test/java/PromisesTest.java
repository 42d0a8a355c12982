/** What each promise says, by hand: ordinary inputs, the edges, wrong inputs. */
public final class PromisesTest {
    private static final int NONE = -1, BAD = -2, STATE = -3, FULL = -4, NEVER = -5;
    private static final int LOW = Integer.MIN_VALUE, HIGH = Integer.MAX_VALUE;
    private static final Due due = new Due();

    public static void main(String[] args) {
        constants();
        newObject();
        feed();
        caves();
        caveDepth();
        caveLimits();
        clausesHold();
        slates();
        readers();
        needs();
        hours();
        toldAndLevel();
        soon();
        soonOfRowedAndWaiting();
        soonAtItsBound();
        set();
        setThatIsLong();
        setWhereTheFasterStartIsWorse();
        two();
        asks();
        shelve();
        change();
        force();
        open();
        next();
        safe();
        mean();
        seen();
        tales();
        acts();
        actsUnderOthers();
        as();
        image();
        count();
        farAhead();
        due.end();
    }

    private static int cave(LowWater x, String text) {
        for (int i = 0; i < text.length(); i++) {
            due.is("feed of " + text, x.feed(text.charAt(i)), i + 1);
        }
        return x.cave();
    }

    private static LowWater under(String text) {
        LowWater x = new LowWater();
        due.is("cave " + text, cave(x, text), 0);
        return x;
    }

    private static void fault(String text, int place) {
        LowWater x = new LowWater();
        due.is("cave '" + text + "'", cave(x, text), -10 - place);
        due.is("count(2) after '" + text + "'", x.count(2), 0);
        due.is("count(6) after '" + text + "'", x.count(6), 0);
    }

    private static void go(LowWater x, int hours) {
        for (int left = hours; left > 0; left -= 60) {
            x.hours(Math.min(60, left));
        }
    }

    private static void constants() {
        due.about("constants");
        due.is("NONE", LowWater.NONE, -1);
        due.is("BAD", LowWater.BAD, -2);
        due.is("STATE", LowWater.STATE, -3);
        due.is("FULL", LowWater.FULL, -4);
        due.is("NO", LowWater.NO, Long.MIN_VALUE);
    }

    private static void newObject() {
        due.about("promise 1");
        LowWater x = new LowWater();
        for (int what = 0; what < 8; what++) {
            due.is("count(" + what + ")", x.count(what), 0);
        }
        due.is("told(0)", x.told(0), 0);
        due.is("told(1)", x.told(1), 6);
        due.is("told(2)", x.told(2), 0);
        due.is("undo()", x.undo(), STATE);
        due.is("trace(0)", x.trace(0), NONE);
        due.is("of(0, 0)", x.of(0, 0), NONE);
        due.is("at(0, 0)", x.at(0, 0), NONE);
        due.is("waits()", x.waits(), 0);
        due.is("stood()", x.stood(), 511);
        due.is("looked()", x.looked(), NEVER);
        due.is("force(6)", x.force(6), 0);
    }

    private static void feed() {
        due.about("promise 2");
        LowWater x = new LowWater();
        due.is("feed(-1)", x.feed(-1), BAD);
        due.is("feed(128)", x.feed(128), BAD);
        due.is("feed(LOW)", x.feed(LOW), BAD);
        due.is("feed(HIGH)", x.feed(HIGH), BAD);
        due.is("feed(0)", x.feed(0), 1);
        due.is("feed(127)", x.feed(127), 2);
        for (int n = 3; n <= 100; n++) {
            due.is("feed(59)", x.feed(59), n);
        }
        due.is("feed(59)", x.feed(59), FULL);
        due.is("feed(128)", x.feed(128), BAD);
        due.is("count(6)", x.count(6), 100);
        due.is("cave()", x.cave(), -10);
        due.is("feed(59)", x.feed(59), 1);
    }

    private static void caves() {
        due.about("promise 3");
        for (String text : new String[] {"swell 1 h<1", "ebb 0 d=13", "wave 99 m>4", "ebb 10 h=0|d=1&m=2",
            "swell 7 !(h=1|h=2)&!d=99;ebb 1 (h=1)", "wave 9 ((h=1)|((d=2)))"}) {
            due.is("count(2)", under(text).count(2), 1);
        }
        fault("", 0);
        fault("x", 0);
        fault(";", 0);
        fault(" swell 1 h<1", 0);
        fault("Swell 1 h<1", 0);
        fault("swell", 5);
        fault("swill", 2);
        fault("eb", 2);
        fault("ebbs", 3);
        fault("wave", 4);
        fault("wavy", 3);
        fault("swell ", 6);
        fault("swell  1 h=1", 6);
        fault("swell h=1", 6);
        fault("swell -1 h=1", 6);
        fault("swell 05 h=1", 7);
        fault("swell 00 h=1", 7);
        fault("swell 1h=1", 7);
        fault("swell 100 h=1", 8);
        fault("swell 1", 7);
        fault("swell 1 ", 8);
        fault("swell 1  h=1", 8);
        fault("swell 1 x=1", 8);
        fault("swell 1 h", 9);
        fault("swell 1 h =1", 9);
        fault("swell 1 h1", 9);
        fault("swell 1 h=", 10);
        fault("swell 1 h<=1", 10);
        fault("swell 1 h= 1", 10);
        fault("swell 1 h=01", 11);
        fault("swell 1 h=1 ", 11);
        fault("swell 1 h=1)", 11);
        fault("swell 1 h=1h", 11);
        fault("swell 1 h=123", 12);
        fault("swell 1 h=1;", 12);
        fault("swell 1 h=1;;", 12);
        fault("swell 1 h=1; ebb 1 h=1", 12);
        fault("swell 1 h=1&", 12);
        fault("swell 1 h=1&|d=1", 12);
        fault("swell 1 h=1|", 12);
        fault("swell 1 h=1:", 11);
        fault("swell 1 h=1/", 11);
        fault("swell 1 h=:", 10);
        fault("swell /", 6);
        fault("swell :", 6);
        fault("swell 1 (h=1|)", 13);
        fault("swell 1 (h=1&)", 13);
        fault("swell 1 h=1||d=1", 12);
        fault("swell 1 |h=1", 8);
        fault("swell 1 ()", 9);
        fault("swell 1 (h=1", 12);
        fault("swell 1 (h=1;", 12);
        fault("swell 1 (h=1(", 12);
        fault("swell 1 (h=1))", 13);
        fault("swell 1 (h=1)(d=1)", 13);
        fault("swell 1 (h=1)!d=1", 13);
        fault("swell 1 (h=1)2", 13);
        fault("swell 1 !", 9);
        fault("swell 1 !&h=1", 9);
        fault("swell 1 h=1!", 11);
        fault("swell 1 h=1\0", 11);
        fault("ebb 1 h=1;flood 2 h=1", 10);
    }

    private static void caveDepth() {
        due.about("promise 3, open ones");
        for (String text : new String[] {"wave 1 !!!!!h=1", "wave 1 (((((h=1)))))", "wave 1 !(!(!h=1))",
            "wave 1 !!!!!h=1&!!!!!h=1|!!!!!h=1", "wave 1 (((((h=1)))))&(((((h=1)))))",
            "wave 1 ((((!h=1&!h=2))))", "wave 1 !((((h=1))))&!(!(!h=2))", "wave 1 ((!!!h=1|(((h=2)))))",
            "wave 1 !((((h=1)&!h=2)))"}) {
            due.is(text, under(text).count(2), 1);
        }
        fault("wave 1 !!!!!!h=1", 12);
        fault("wave 1 ((((((h=1))))))", 12);
        fault("wave 1 !(!(!(h=1)))", 12);
        fault("wave 1 !!!!!(h=1)", 12);
        fault("wave 1 (((((!h=1)))))", 12);
        fault("wave 1 ((((!h=1&!!h=2))))", 17);
        fault("wave 1 ((((!h=1&!(h=2)))))", 17);
        fault("wave 1 !((((h=1)&!!h=2)))", 18);
    }

    private static void caveLimits() {
        due.about("promise 3, limits");
        StringBuilder ten = new StringBuilder("ebb 0 h=0");
        for (int i = 1; i < 10; i++) {
            ten.append(";ebb 0 h=0");
        }
        due.is("ten clauses", under(ten.toString()).count(2), 1);
        fault(ten + ";", 99);
        fault(ten + "0", 99);
        fault(ten + "&", 100);
        LowWater x = new LowWater();
        for (int i = 0; i < 5; i++) {
            due.is("cave", cave(x, "swell " + i + " h<12"), i);
            due.is("told(1)", x.told(1), Math.min(9, 6 + i));
            if (i == 1) {
                due.is("bad cave", cave(x, "swell 9 h<12;"), -23);
                due.is("told(1)", x.told(1), 7);
            }
        }
        due.is("count(2)", x.count(2), 5);
        due.is("cave()", x.cave(), FULL);
        x.feed(1);
        x.feed(2);
        due.is("cave()", x.cave(), FULL);
        due.is("count(6)", x.count(6), 2);
        due.is("told(1)", x.told(1), 9);
    }

    private static void clausesHold() {
        due.about("clauses");
        LowWater x = under("swell 2 h=1|d=1&m=0;ebb 1 !(h>3|m<2)");
        // HOUR 1: 5 and 2 (h=1); m is 1
        due.is("level(1)", x.level(1), 7);
        due.is("level(2)", x.level(2), 4 - 1);
        due.is("level(3)", x.level(3), 3 - 1);
        due.is("level(4)", x.level(4), 2);
        // HOURS 15 and 20: d is 1, m is 0
        due.is("level(15)", x.level(15), 3 + 2);
        due.is("level(20)", x.level(20), 2 + 2);
        due.is("level(25)", x.level(25), 5 + 2);
        due.is("level(26)", x.level(26), 4);
        x = under("swell 1 h=1&h=2|h=3;wave 1 !h=1&h<3;wave 2 !!h=1;wave 4 !(h=1&h=2)&h=2");
        int[] levels = {6, 5, 4, 4, 2};
        int[] waves = {1, 2, 5, 0, 0};
        for (int k = 0; k < 5; k++) {
            due.is("told(1)", x.told(1), levels[k]);
            due.is("told(2)", x.told(2), waves[k]);
            x.hours(1);
        }
        x = under("swell 5 h=0;swell 6 h=1;ebb 7 h=0;ebb 99 h=2;swell 99 h=3");
        due.is("level(0)", x.level(0), 4);
        due.is("level(1)", x.level(1), 9);
        due.is("level(2)", x.level(2), 0);
        due.is("level(3)", x.level(3), 9);
        due.is("level(4)", x.level(4), 2);
        x = under("ebb 6 d>12|d=1&(h<1|h>10)");
        due.is("level(11)", x.level(11), 5);
        due.is("level(12)", x.level(12), 0);
        due.is("level(23)", x.level(23), 0);
        due.is("level(24)", x.level(24), 6);
        go(x, 12 * 12);
        due.is("level(11)", x.level(11), 5);
        due.is("level(12)", x.level(12), 0);
        due.is("level(23)", x.level(23), 0);
        due.is("level(24)", x.level(24), 6);
        due.is("level(36)", x.level(36), 0);
    }

    private static void slates() {
        due.about("promises 4 to 6");
        LowWater x = new LowWater();
        due.is("slate(-1, 1)", x.slate(-1, 1), NONE);
        due.is("slate(9, 9)", x.slate(9, 9), NONE);
        due.is("slate(0, 0)", x.slate(0, 0), BAD);
        due.is("slate(8, 5)", x.slate(8, 5), BAD);
        for (int i = 0; i < 6; i++) {
            due.is("slate", x.slate(i + 3, i % 4 + 1), i);
        }
        due.is("slate(0, 1)", x.slate(0, 1), FULL);
        due.is("slate(0, 5)", x.slate(0, 5), BAD);
        due.is("slate(9, 1)", x.slate(9, 1), NONE);
        for (int i = 0; i < 6; i++) {
            due.is("of", x.of(i, 0), i + 3);
            due.is("of", x.of(i, 1), i % 4 + 1);
        }
        due.is("of(6, 0)", x.of(6, 0), NONE);
        due.is("of(-1, 0)", x.of(-1, 0), NONE);
        due.is("of(0, 2)", x.of(0, 2), NONE);
        due.is("of(0, -1)", x.of(0, -1), NONE);
        due.is("put(2, 0)", x.put(2, 0), 5);
        due.is("put(2, 8)", x.put(2, 8), 0);
        due.is("put(2, 8)", x.put(2, 8), 8);
        due.is("put(2, 9)", x.put(2, 9), NONE);
        due.is("put(2, -1)", x.put(2, -1), NONE);
        due.is("put(6, 1)", x.put(6, 1), NONE);
        due.is("put(-1, 1)", x.put(-1, 1), NONE);
        due.is("of(2, 0)", x.of(2, 0), 8);
        due.is("of(2, 1)", x.of(2, 1), 3);
        due.is("of(1, 0)", x.of(1, 0), 4);
    }

    private static void readers() {
        due.about("promises 7, 8");
        LowWater x = new LowWater();
        due.is("reader(-1, 0)", x.reader(-1, 0), NONE);
        due.is("reader(7, 10)", x.reader(7, 10), NONE);
        due.is("reader(0, -1)", x.reader(0, -1), BAD);
        due.is("reader(6, 10)", x.reader(6, 10), BAD);
        for (int i = 0; i < 4; i++) {
            due.is("reader", x.reader(6 - i, i * 3), i);
        }
        due.is("reader(0, 0)", x.reader(0, 0), FULL);
        due.is("reader(0, 10)", x.reader(0, 10), BAD);
        due.is("reader(7, 0)", x.reader(7, 0), NONE);
        for (int i = 0; i < 4; i++) {
            due.is("at", x.at(i, 0), 6 - i);
            due.is("at", x.at(i, 1), i * 3);
        }
        for (int kind = 0; kind < 7; kind++) {
            LowWater one = new LowWater();
            due.is("reader", one.reader(kind, 9 - kind), 0);
            due.is("at(0, 0)", one.at(0, 0), kind);
            due.is("at(0, 1)", one.at(0, 1), 9 - kind);
        }
        due.is("at(4, 0)", x.at(4, 0), NONE);
        due.is("at(-1, 0)", x.at(-1, 0), NONE);
        due.is("at(0, 2)", x.at(0, 2), NONE);
        due.is("at(0, -1)", x.at(0, -1), NONE);
    }

    private static void needs() {
        due.about("promise 9");
        int[][] want = {{0, 0, 1, 2, 3, 4}, {1, 9, 1, 1, 2, 2}, {2, 0, 1, 2, 3, 4}, {3, 0, 1, 2, 3, 4},
            {4, 4, 1, 1, 2, 2}, {4, 5, 1, 1, 1, 1}, {5, 9, 2, 4, 6, 8}, {6, 9, 1, 2, 3, 4}};
        for (int[] row : want) {
            LowWater x = new LowWater();
            x.reader(row[0], row[1]);
            for (int lines = 1; lines <= 4; lines++) {
                x.slate(0, lines);
                due.is("needs of kind " + row[0], x.needs(0, lines - 1), row[lines + 1]);
            }
            due.is("needs(0, 4)", x.needs(0, 4), NONE);
            due.is("needs(1, 0)", x.needs(1, 0), NONE);
            due.is("needs(0, -1)", x.needs(0, -1), NONE);
            due.is("needs(-1, 0)", x.needs(-1, 0), NONE);
        }
    }

    private static void hours() {
        due.about("promise 10");
        LowWater x = new LowWater();
        due.is("hours(0)", x.hours(0), 0);
        due.is("hours(61)", x.hours(61), BAD);
        due.is("hours(-1)", x.hours(-1), BAD);
        for (int i = 1; i <= 166; i++) {
            due.is("hours(60)", x.hours(60), 60 * i);
        }
        due.is("hours(40)", x.hours(40), STATE);
        due.is("hours(60)", x.hours(60), STATE);
        due.is("told(0)", x.told(0), 9960);
        due.is("hours(39)", x.hours(39), 9999);
        due.is("hours(1)", x.hours(1), STATE);
        due.is("hours(0)", x.hours(0), 9999);
        due.is("hours(61)", x.hours(61), BAD);
        due.is("hours(LOW)", x.hours(LOW), BAD);
        due.is("hours(HIGH)", x.hours(HIGH), BAD);
    }

    private static void toldAndLevel() {
        due.about("promises 11, 12");
        LowWater x = new LowWater();
        int[] levels = {6, 5, 4, 3, 2, 1, 0, 1, 2, 3, 4, 5};
        for (int k = 0; k <= 60; k++) {
            due.is("level(" + k + ")", x.level(k), levels[k % 12]);
        }
        due.is("level(61)", x.level(61), BAD);
        due.is("level(-1)", x.level(-1), BAD);
        x.hours(16);
        due.is("told(0)", x.told(0), 16);
        due.is("told(1)", x.told(1), 2);
        due.is("level(2)", x.level(2), 0);
        due.is("told(3)", x.told(3), NONE);
        due.is("told(-1)", x.told(-1), NONE);
        x = under("wave 4 h=0;wave 6 h<2;wave 3 m=0");
        due.is("told(2)", x.told(2), 10);
        x.hours(1);
        due.is("told(2)", x.told(2), 6);
        x.hours(1);
        due.is("told(2)", x.told(2), 0);
    }

    /** SOON on an object that has this READER alone, at that HOUR. */
    private static int soonOf(LowWater x, int kind, int v, int shelf, int lines, int hour) {
        due.is("reader", x.reader(kind, v), 0);
        due.is("slate", x.slate(shelf, lines), 0);
        go(x, hour);
        return x.soon(0, 0);
    }

    private static void soon() {
        due.about("promise 13");
        due.is("READER", soonOf(new LowWater(), 0, 9, 0, 1, 0), 7);
        due.is("READER", soonOf(new LowWater(), 0, 9, 0, 2, 0), NEVER);
        due.is("READER", soonOf(new LowWater(), 0, 0, 8, 4, 0), 4);
        due.is("READER", soonOf(new LowWater(), 0, 0, 0, 1, 7), 12);
        due.is("READER", soonOf(new LowWater(), 0, 0, 1, 3, 0), 8);
        due.is("READER", soonOf(new LowWater(), 0, 0, 1, 3, 6), 14);
        due.is("FAST", soonOf(new LowWater(), 1, 0, 1, 4, 6), 2);
        due.is("QUICK", soonOf(new LowWater(), 4, 5, 0, 4, 0), 7);
        due.is("QUICK", soonOf(new LowWater(), 4, 4, 0, 4, 0), NEVER);
        due.is("DIVER", soonOf(new LowWater(), 2, 4, 2, 1, 0), 4);
        due.is("DIVER", soonOf(new LowWater(), 2, 3, 2, 1, 0), 5);
        due.is("DIVER", soonOf(new LowWater(), 2, 8, 2, 1, 0), 3);
        due.is("BLIND", soonOf(new LowWater(), 5, 2, 0, 2, 0), 8);
        due.is("BLIND", soonOf(new LowWater(), 5, 2, 0, 3, 0), NEVER);
        due.is("BLIND", soonOf(new LowWater(), 5, 0, 1, 1, 0), 7);
        due.is("BLIND", soonOf(new LowWater(), 5, 0, 8, 4, 0), 8);
        LowWater x = new LowWater();
        x.reader(0, 0);
        due.is("soon(0, 0)", x.soon(0, 0), NONE);
        x.slate(0, 1);
        due.is("soon(1, 0)", x.soon(1, 0), NONE);
        due.is("soon(-1, 0)", x.soon(-1, 0), NONE);
        due.is("soon(0, -1)", x.soon(0, -1), NONE);
    }

    private static void soonOfRowedAndWaiting() {
        due.about("promise 13, who may begin");
        due.is("ROWED", soonOf(new LowWater(), 3, 0, 1, 1, 0), 6);
        due.is("ROWED", soonOf(new LowWater(), 3, 1, 1, 1, 0), 7);
        due.is("ROWED", soonOf(new LowWater(), 3, 2, 1, 1, 0), 7);
        due.is("ROWED", soonOf(new LowWater(), 3, 4, 1, 2, 0), 8);
        due.is("ROWED", soonOf(new LowWater(), 3, 4, 1, 3, 0), NEVER);
        due.is("ROWED", soonOf(new LowWater(), 3, 5, 8, 1, 1), 3);
        due.is("ROWED", soonOf(new LowWater(), 3, 5, 8, 1, 3), 1);
        due.is("WAITING", soonOf(new LowWater(), 6, 0, 1, 1, 0), 6);
        due.is("WAITING", soonOf(new LowWater(), 6, 0, 1, 1, 7), 11);
        due.is("WAITING", soonOf(new LowWater(), 6, 2, 1, 2, 0), 8);
        due.is("WAITING", soonOf(new LowWater(), 6, 0, 8, 4, 7), 10);
        // of HOUR 0 the one ahead is HOUR 11, of which d is 0; of HOUR 840 it is 839
        due.is("WAITING", soonOf(new LowWater(), 6, 0, 8, 1, 0), 2);
        due.is("WAITING", soonOf(under("swell 1 d=0&h=11"), 6, 0, 8, 1, 0), 1);
        due.is("WAITING", soonOf(under("swell 1 d=13&h=11"), 6, 0, 8, 1, 0), 2);
        due.is("WAITING", soonOf(under("swell 1 d=0&h=11"), 6, 0, 8, 1, 840), 2);
        due.is("WAITING", soonOf(under("swell 1 d=13&h=11"), 6, 0, 8, 1, 840), 1);
        due.is("WAITING", soonOf(under("ebb 9 h<12"), 6, 2, 0, 1, 1), 3);
    }

    private static void soonAtItsBound() {
        due.about("promise 13, 60 HOURS");
        String wet = "swell 99 d<4|d=4&h<11";
        due.is("read at the end of HOUR 59", soonOf(under(wet), 0, 0, 8, 1, 0), 60);
        due.is("read at the end of HOUR 60", soonOf(under(wet), 0, 0, 8, 2, 0), NEVER);
        due.is("an HOUR later", soonOf(under(wet), 0, 0, 8, 2, 1), 60);
    }

    private static void set() {
        due.about("promise 14");
        LowWater x = new LowWater();
        x.reader(0, 0);
        due.is("set(0, 1, -1)", x.set(0, 1, -1), BAD);
        due.is("set(0, 0, -1)", x.set(0, 0, -1), 0);
        x.slate(8, 1);
        x.slate(8, 2);
        x.slate(2, 1);
        x.slate(8, 1);
        // 2 is read at HOUR 4 at the earliest: 0, 1 and 3 go ahead, which are at an end just then
        due.is("set(0, 15, -1)", x.set(0, 15, -1), 5);
        int[] row = {0, 1, 3, 2};
        for (int k = 0; k < 6; k++) {
            due.is("set(0, 15, " + k + ")", x.set(0, 15, k), k < 4 ? row[k] : NEVER);
        }
        due.is("set(0, 4, -1)", x.set(0, 4, -1), 5);
        due.is("set(0, 4, 0)", x.set(0, 4, 0), 2);
        due.is("set(0, 12, -1)", x.set(0, 12, -1), 5);
        due.is("set(0, 12, 0)", x.set(0, 12, 0), 3);
        due.is("set(0, 0, 0)", x.set(0, 0, 0), NEVER);
        due.is("set(0, 15, 6)", x.set(0, 15, 6), NONE);
        due.is("set(0, 15, -2)", x.set(0, 15, -2), NONE);
        due.is("set(1, 16, 0)", x.set(1, 16, 0), NONE);
        due.is("set(-1, 1, 0)", x.set(-1, 1, 0), NONE);
        due.is("set(0, 16, 0)", x.set(0, 16, 0), BAD);
        due.is("set(0, -1, 0)", x.set(0, -1, 0), BAD);
        due.is("set(0, LOW, 0)", x.set(0, LOW, 0), BAD);
        x.hours(5);
        due.is("set(0, 15, -1)", x.set(0, 15, -1), 5);
        due.is("set(0, 15, 0)", x.set(0, 15, 0), 0);
        due.is("set(0, 15, 1)", x.set(0, 15, 1), 1);
        x.put(2, 0);
        x.slate(0, 2);
        due.is("set(0, 17, -1)", x.set(0, 17, -1), NEVER);
        due.is("set(0, 17, 0)", x.set(0, 17, 0), NEVER);
        x.slate(8, 4);
        // 0, 2, ... fill HOUR 5, HOUR 6; the rest goes on to HOUR 14
        due.is("set(0, 47, -1)", x.set(0, 47, -1), 9);
        due.is("set(0, 47, 0)", x.set(0, 47, 0), 0);
        due.is("set(0, 47, 1)", x.set(0, 47, 1), 2);
        due.is("set(0, 47, 5)", x.set(0, 47, 5), NEVER);
        due.is("told(0)", x.told(0), 5);
    }

    /** Dry is HOUR 59 of every 60 alone. */
    private static void setThatIsLong() {
        due.about("promise 14, 60 HOURS each");
        LowWater x = under("swell 99 !(h=11&m=4)");
        x.reader(0, 0);
        x.reader(1, 0);
        for (int i = 0; i < 6; i++) {
            x.slate(8 - i % 2, 1);
        }
        for (int hour = 0; hour < 3; hour++) {
            due.is("set(0, 63, -1)", x.set(0, 63, -1), 360 - hour);
            due.is("set(0, 62, -1)", x.set(0, 62, -1), 300 - hour);
            for (int k = 0; k < 6; k++) {
                due.is("set(0, 63, " + k + ")", x.set(0, 63, k), k);
            }
            due.is("two(1, 0, 63, 0)", x.two(1, 0, 63, 0), 180 - hour);
            due.is("two(1, 0, 63, 1)", x.two(1, 0, 63, 1), 7);
            x.hours(1);
        }
        x.put(3, 4);
        due.is("set(0, 63, -1)", x.set(0, 63, -1), NEVER);
    }

    /** 0 first is read at once, then 1 at once, but 2 only later than 60 HOURS behind that. */
    private static void setWhereTheFasterStartIsWorse() {
        due.about("promise 14, within 60 HOURS of the one ahead");
        LowWater x = under("ebb 3 h=0&d=0;swell 99 d=0&h>1|d=1|d=2&!h=6|d>2&d<5|d=5&!h=2;swell 3 d=2&h=6;ebb 9 d=5");
        x.reader(0, 0);
        x.reader(0, 0);
        x.slate(3, 1);
        x.slate(6, 1);
        x.slate(0, 1);
        due.is("set(0, 3, -1)", x.set(0, 3, -1), 2);
        due.is("set(0, 4, -1)", x.set(0, 4, -1), NEVER);
        due.is("set(0, 5, -1)", x.set(0, 5, -1), NEVER);
        due.is("set(0, 7, -1)", x.set(0, 7, -1), 63);
        due.is("set(0, 7, 0)", x.set(0, 7, 0), 1);
        due.is("set(0, 7, 1)", x.set(0, 7, 1), 0);
        due.is("set(0, 7, 2)", x.set(0, 7, 2), 2);
        due.is("two(0, 1, 7, 0)", x.two(0, 1, 7, 0), 63);
        due.is("two(0, 1, 7, 1)", x.two(0, 1, 7, 1), 0);
        due.is("two(0, 1, 4, 0)", x.two(0, 1, 4, 0), NEVER);
        due.is("two(0, 1, 4, 1)", x.two(0, 1, 4, 1), NEVER);
    }

    private static void two() {
        due.about("promise 15");
        LowWater x = new LowWater();
        x.reader(0, 0);
        x.reader(1, 0);
        for (int lines = 1; lines <= 4; lines++) {
            x.slate(8, lines);
        }
        // READER 1, 2, 3, 4 HOURS; FAST 1, 1, 2, 2: READER 0 and 1, or 2, or .., and FAST the rest
        due.is("two(0, 1, 15, 0)", x.two(0, 1, 15, 0), 4);
        due.is("two(0, 1, 15, 1)", x.two(0, 1, 15, 1), 3);
        due.is("two(1, 0, 15, 0)", x.two(1, 0, 15, 0), 4);
        due.is("two(1, 0, 15, 1)", x.two(1, 0, 15, 1), 7);
        due.is("two(0, 1, 3, 0)", x.two(0, 1, 3, 0), 1);
        due.is("two(0, 1, 3, 1)", x.two(0, 1, 3, 1), 1);
        due.is("two(0, 1, 0, 0)", x.two(0, 1, 0, 0), 0);
        due.is("two(0, 1, 0, 1)", x.two(0, 1, 0, 1), 0);
        due.is("two(0, 1, 16, 0)", x.two(0, 1, 16, 0), BAD);
        due.is("two(0, 1, -1, 0)", x.two(0, 1, -1, 0), BAD);
        due.is("two(0, 0, 1, 0)", x.two(0, 0, 1, 0), BAD);
        due.is("two(2, 2, 1, 0)", x.two(2, 2, 1, 0), NONE);
        due.is("two(2, 0, 1, 0)", x.two(2, 0, 1, 0), NONE);
        due.is("two(0, 2, 16, 0)", x.two(0, 2, 16, 0), NONE);
        due.is("two(0, 0, 1, 2)", x.two(0, 0, 1, 2), NONE);
        due.is("two(0, 1, 1, -1)", x.two(0, 1, 1, -1), NONE);
        x.put(3, 0);
        // the last one is dry for an HOUR alone
        due.is("two(0, 1, 8, 0)", x.two(0, 1, 8, 0), NEVER);
        due.is("two(0, 1, 8, 1)", x.two(0, 1, 8, 1), NEVER);
        x.put(3, 1);
        due.is("two(0, 1, 15, 0)", x.two(0, 1, 15, 0), 7);
        due.is("two(0, 1, 15, 1)", x.two(0, 1, 15, 1), 0);
    }

    private static void asks() {
        due.about("promises 16, 17");
        LowWater x = new LowWater();
        due.is("ask(0, 0, 0)", x.ask(0, 0, 0), NONE);
        due.is("ask(-1, 9, 99)", x.ask(-1, 9, 99), 0);
        x.reader(0, 0);
        x.slate(0, 1);
        x.slate(0, 2);
        due.is("ask(1, 0, 0)", x.ask(1, 0, 0), NONE);
        due.is("ask(-2, 0, 0)", x.ask(-2, 0, 0), NONE);
        due.is("ask(0, 2, 99)", x.ask(0, 2, 99), NONE);
        due.is("ask(0, 0, 25)", x.ask(0, 0, 25), BAD);
        due.is("ask(0, 0, -1)", x.ask(0, 0, -1), BAD);
        due.is("ask(0, 0, 0)", x.ask(0, 0, 0), 1);
        due.is("waits()", x.waits(), 7);
        due.is("ask(0, 0, 24)", x.ask(0, 0, 24), 2);
        due.is("waits()", x.waits(), 14);
        due.is("ask(0, 0, 6)", x.ask(0, 0, 6), 3);
        due.is("waits()", x.waits(), 15);
        due.is("ask(0, 1, 7)", x.ask(0, 1, 7), 4);
        due.is("waits()", x.waits(), 76);
        x.put(1, 8);
        due.is("waits()", x.waits(), 17);
        x.hours(1);
        due.is("waits()", x.waits(), 6 + 6 + 12 + 2);
        for (int n = 5; n <= 8; n++) {
            due.is("ask(0, 1, 0)", x.ask(0, 1, 0), n);
        }
        due.is("ask(0, 1, 0)", x.ask(0, 1, 0), FULL);
        due.is("ask(0, 1, 25)", x.ask(0, 1, 25), BAD);
        due.is("ask(0, 2, 0)", x.ask(0, 2, 0), NONE);
        due.is("count(3)", x.count(3), 8);
        due.is("ask(-1, 0, 0)", x.ask(-1, 0, 0), 0);
        due.is("count(3)", x.count(3), 0);
        due.is("waits()", x.waits(), 0);
        due.is("ask(0, 1, 0)", x.ask(0, 1, 0), 1);
        x = new LowWater();
        x.reader(0, 0);
        x.slate(0, 1);
        x.ask(0, 0, 8);
        // from HOUR 8 on to HOUR 18
        due.is("waits()", x.waits(), 11);
        x.hours(2);
        due.is("waits()", x.waits(), 9);
        x.hours(9);
        due.is("waits()", x.waits(), 12);
    }

    private static void shelve() {
        due.about("promise 18");
        LowWater x = new LowWater();
        x.reader(3, 2);
        x.slate(0, 1);
        x.slate(0, 2);
        due.is("shelve(0, 0)", x.shelve(0, 0), 8);
        due.is("shelve(0, 1)", x.shelve(0, 1), 0);
        x.ask(0, 0, 0);
        x.ask(0, 1, 0);
        due.is("waits()", x.waits(), 7 + 61);
        due.is("shelve(0, 0)", x.shelve(0, 0), 8);
        due.is("shelve(0, 1)", x.shelve(0, 1), 1 + 61);
        due.is("shelve(1, 0)", x.shelve(1, 0), 8);
        due.is("shelve(1, 1)", x.shelve(1, 1), 7 + 2);
        due.is("of(1, 0)", x.of(1, 0), 0);
        due.is("waits()", x.waits(), 7 + 61);
        due.is("shelve(2, 0)", x.shelve(2, 0), NONE);
        due.is("shelve(-1, 0)", x.shelve(-1, 0), NONE);
        due.is("shelve(0, 2)", x.shelve(0, 2), NONE);
        due.is("shelve(0, -1)", x.shelve(0, -1), NONE);
        x.put(1, 1);
        due.is("shelve(0, 1)", x.shelve(0, 1), 1 + 8);
        x.hours(6);
        due.is("shelve(0, 1)", x.shelve(0, 1), 1 + 2);
        // all of its SHELVES are as wet: the greatest number
        x = under("swell 99 h<12");
        x.reader(0, 0);
        x.slate(3, 1);
        x.ask(0, 0, 3);
        due.is("shelve(0, 0)", x.shelve(0, 0), 8);
        due.is("shelve(0, 1)", x.shelve(0, 1), 61);
    }

    private static void change() {
        due.about("promise 19");
        LowWater x = new LowWater();
        due.is("change()", x.change(), NEVER);
        x.reader(0, 0);
        x.slate(0, 1);
        due.is("change()", x.change(), NEVER);
        x.slate(4, 1);
        x.slate(8, 1);
        x.slate(8, 1);
        due.is("change()", x.change(), NEVER);
        x.ask(0, 0, 0);
        // 7 HOURS on SHELF 0, 1 on SHELF 8: with 2, or 3
        due.is("change()", x.change(), 2);
        x.ask(0, 2, 0);
        due.is("change()", x.change(), 3);
        x.ask(0, 3, 0);
        x.ask(0, 3, 0);
        // 7, 1, 1, 1: with 1: 3, 1, 1, 1
        due.is("change()", x.change(), 1);
        x.ask(0, 1, 0);
        x.ask(0, 1, 0);
        // 7, 1, 1, 1, 3, 3 are 16; 0 with 2: 1, 7, .. as much; 1 with 2: 7, 3, 1, 1, 1, 1 are 14
        due.is("waits()", x.waits(), 16);
        due.is("change()", x.change(), 12);
        due.is("of(1, 0)", x.of(1, 0), 4);
        due.is("of(2, 0)", x.of(2, 0), 8);
        x.put(0, 8);
        x.put(1, 8);
        due.is("change()", x.change(), NEVER);
        // from 5 of 6 SLATES: the lesser ones first
        x = new LowWater();
        x.reader(0, 0);
        for (int shelf : new int[] {8, 8, 8, 8, 0, 0}) {
            x.slate(shelf, 1);
        }
        x.ask(0, 4, 0);
        due.is("change()", x.change(), 4);
        x.ask(0, 0, 0);
        due.is("change()", x.change(), 14);
        x.ask(0, 5, 0);
        due.is("change()", x.change(), 14);
        x.ask(0, 5, 1);
        due.is("change()", x.change(), 15);
    }

    private static void force() {
        due.about("promise 20");
        LowWater x = new LowWater();
        for (int shelf : new int[] {6, 5, 0, 8, 1, 3}) {
            x.slate(shelf, 1);
        }
        due.is("force(0)", x.force(0), 1 | 8);
        due.is("force(1)", x.force(1), 1 | 2 | 8);
        due.is("force(3)", x.force(3), 1 | 2 | 8 | 32);
        due.is("force(5)", x.force(5), 59);
        due.is("force(6)", x.force(6), 63);
        due.is("force(60)", x.force(60), 9);
        due.is("force(61)", x.force(61), BAD);
        due.is("force(-1)", x.force(-1), BAD);
        x.hours(5);
        due.is("force(1)", x.force(1), 63);
    }

    private static void open() {
        due.about("promise 21");
        LowWater x = new LowWater();
        due.is("open(2, 60, 0)", x.open(2, 60, 0), 25);
        due.is("open(2, 60, 1)", x.open(2, 60, 1), 5);
        due.is("open(2, 0, 0)", x.open(2, 0, 0), 0);
        due.is("open(2, 0, 1)", x.open(2, 0, 1), 0);
        due.is("open(2, 4, 0)", x.open(2, 4, 0), 0);
        due.is("open(2, 5, 0)", x.open(2, 5, 0), 1);
        due.is("open(8, 60, 0)", x.open(8, 60, 0), 60);
        due.is("open(8, 60, 1)", x.open(8, 60, 1), 60);
        due.is("open(0, 6, 0)", x.open(0, 6, 0), 0);
        due.is("open(0, 7, 1)", x.open(0, 7, 1), 1);
        x.hours(6);
        // HOURS 6, 7, 8, then 16 .. 20
        due.is("open(2, 15, 0)", x.open(2, 15, 0), 8);
        due.is("open(2, 15, 1)", x.open(2, 15, 1), 5);
        due.is("open(2, 5, 1)", x.open(2, 5, 1), 3);
        due.is("open(9, 61, 0)", x.open(9, 61, 0), NONE);
        due.is("open(-1, 1, 0)", x.open(-1, 1, 0), NONE);
        due.is("open(0, 61, 2)", x.open(0, 61, 2), NONE);
        due.is("open(0, 1, -1)", x.open(0, 1, -1), NONE);
        due.is("open(0, 61, 1)", x.open(0, 61, 1), BAD);
        due.is("open(0, -1, 1)", x.open(0, -1, 1), BAD);
    }

    private static void next() {
        due.about("promise 22");
        LowWater x = new LowWater();
        for (int level = 0; level <= 9; level++) {
            due.is("next(" + level + ")", x.next(level), level > 6 ? 0 : 6 - level);
        }
        due.is("next(10)", x.next(10), BAD);
        due.is("next(-1)", x.next(-1), BAD);
        x.hours(7);
        due.is("next(1)", x.next(1), 0);
        due.is("next(0)", x.next(0), 11);
        x = under("swell 99 d<5");
        due.is("next(8)", x.next(8), 60);
        due.is("next(5)", x.next(5), NEVER);
        due.is("next(9)", x.next(9), 0);
        x.hours(1);
        due.is("next(5)", x.next(5), 60);
        due.is("next(4)", x.next(4), NEVER);
    }

    private static void odds(LowWater x, int shelf, int n, long above, long below) {
        due.is("safe(" + shelf + ", " + n + ", 0)", x.safe(shelf, n, 0), above);
        due.is("safe(" + shelf + ", " + n + ", 1)", x.safe(shelf, n, 1), below);
    }

    private static void safe() {
        due.about("promise 23");
        LowWater x = under("wave 4 h<12");
        odds(x, 0, 0, 1, 1);
        odds(x, 5, 1, 0, 1);
        odds(x, 6, 1, 3, 5);
        odds(x, 7, 1, 1, 1);
        odds(x, 6, 12, 3, 5);
        odds(x, 5, 2, 0, 1);
        x.hours(1);
        odds(x, 5, 10, 3, 5);
        odds(x, 5, 11, 9, 25);
        odds(x, 5, 12, 0, 1);
        x = under("wave 4 h<12;ebb 9 h<12");
        odds(x, 0, 12, 531441, 244140625);
        odds(x, 1, 12, 1, 1);
        x = under("wave 6 h<12;wave 5 h<6;ebb 9 h<12");
        odds(x, 0, 1, 0, 1);
        x.hours(6);
        odds(x, 0, 6, 64, 15625);
        odds(x, 0, 7, 0, 1);
        x = under("wave 10 h=0;wave 3 !h=0");
        odds(x, 6, 1, 0, 1);
        odds(new LowWater(), 6, 12, 1, 1);
        // 7 of ten, twelve times
        odds(under("wave 3 h<12;ebb 99 h<99"), 0, 12, 13841287201L, 1000000000000L);
        for (int[] row : new int[][] {{9, 1, 0}, {-1, 1, 0}, {0, 13, 0}, {0, -1, 0}, {0, 1, 2}, {0, 1, -1}}) {
            due.is("safe", x.safe(row[0], row[1], row[2]), LowWater.NO);
        }
    }

    private static void mean() {
        due.about("promise 24");
        LowWater x = new LowWater();
        long[][] want = {{1, 6, 1}, {2, 11, 2}, {3, 5, 1}, {4, 9, 2}, {5, 4, 1}, {12, 3, 1}, {16, 27, 8}, {58, 171, 58},
            {60, 3, 1}};
        for (long[] row : want) {
            due.is("mean(" + row[0] + ", 0)", x.mean((int) row[0], 0), row[1]);
            due.is("mean(" + row[0] + ", 1)", x.mean((int) row[0], 1), row[2]);
        }
        x.hours(6);
        due.is("mean(1, 0)", x.mean(1, 0), 0);
        due.is("mean(1, 1)", x.mean(1, 1), 1);
        due.is("mean(0, 1)", x.mean(0, 1), LowWater.NO);
        due.is("mean(61, 0)", x.mean(61, 0), LowWater.NO);
        due.is("mean(1, 2)", x.mean(1, 2), LowWater.NO);
        due.is("mean(1, -1)", x.mean(1, -1), LowWater.NO);
    }

    private static void seen() {
        due.about("promises 25, 26");
        LowWater x = new LowWater();
        due.is("see(0, true)", x.see(0, true), 1);
        due.is("stood()", x.stood(), 0x1C0);
        due.is("see(3, false)", x.see(3, false), 2);
        due.is("stood()", x.stood(), 0);
        due.is("see(-1, false)", x.see(-1, false), 0);
        due.is("count(4)", x.count(4), 0);
        due.is("stood()", x.stood(), 511);
        due.is("see(1, false)", x.see(1, false), 1);
        due.is("stood()", x.stood(), 31);
        due.is("see(60, false)", x.see(60, false), 2);
        due.is("stood()", x.stood(), 31);
        due.is("see(4, true)", x.see(4, true), 3);
        due.is("stood()", x.stood(), 28);
        due.is("see(61, true)", x.see(61, true), BAD);
        due.is("see(-2, true)", x.see(-2, true), BAD);
        x.hours(1);
        // HOURS 1, 2, 61 and 5: LEVELS 4, 5 (of 61) and 1
        due.is("stood()", x.stood(), 14);
        for (int n = 4; n <= 8; n++) {
            due.is("see(6, true)", x.see(5, true), n);
        }
        due.is("stood()", x.stood(), 14);
        due.is("see(5, true)", x.see(5, true), FULL);
        due.is("see(61, true)", x.see(61, true), BAD);
        due.is("count(4)", x.count(4), 8);
        x = under("swell 99 h<12");
        x.see(0, false);
        due.is("stood()", x.stood(), 511);
        x.see(0, true);
        due.is("stood()", x.stood(), 0);
        x = under("ebb 99 h<12");
        x.see(0, true);
        due.is("stood()", x.stood(), 511);
        x.see(0, false);
        due.is("stood()", x.stood(), 0);
    }

    private static void tales() {
        due.about("promises 27, 28");
        LowWater x = new LowWater();
        due.is("tale(0, 0, 0)", x.tale(0, 0, 0), NONE);
        due.is("tale(-1, 9, 99)", x.tale(-1, 9, 99), 0);
        x.reader(0, 0);
        x.reader(3, 2);
        x.reader(6, 0);
        x.reader(5, 1);
        x.slate(3, 4);
        x.slate(8, 1);
        due.is("tale(0, 2, 99)", x.tale(0, 2, 99), NONE);
        due.is("tale(4, 0, 0)", x.tale(4, 0, 0), NONE);
        due.is("tale(-2, 0, 0)", x.tale(-2, 0, 0), NONE);
        due.is("tale(0, 0, -1)", x.tale(0, 0, -1), BAD);
        due.is("tale(0, 0, 61)", x.tale(0, 0, 61), BAD);
        due.is("looked()", x.looked(), NEVER);
        // HOURS 3 .. 9 are dry
        due.is("tale(0, 0, 3)", x.tale(0, 0, 3), 1);
        due.is("tale(0, 0, 6)", x.tale(0, 0, 6), 2);
        due.is("looked()", x.looked(), NEVER);
        // BLIND reads SHELF 3 as SHELF 4 for 8 HOURS, 2 .. 9
        due.is("tale(3, 0, 2)", x.tale(3, 0, 2), 3);
        due.is("tale(3, 0, 3)", x.tale(3, 0, 3), 4);
        due.is("looked()", x.looked(), NEVER);
        due.is("tale(1, 1, 60)", x.tale(1, 1, 60), 5);
        due.is("tale(2, 1, 6)", x.tale(2, 1, 6), 6);
        due.is("looked()", x.looked(), NEVER);
        due.is("tale(1, 1, 4)", x.tale(1, 1, 4), 7);
        due.is("looked()", x.looked(), 6);
        due.is("tale(2, 1, 7)", x.tale(2, 1, 7), 8);
        due.is("tale(2, 1, 7)", x.tale(2, 1, 7), FULL);
        due.is("tale(2, 1, 61)", x.tale(2, 1, 61), BAD);
        due.is("looked()", x.looked(), 6);
        due.is("count(5)", x.count(5), 8);
        x.hours(1);
        due.is("looked()", x.looked(), 1);
        x.put(0, 2);
        due.is("looked()", x.looked(), 1);
        x.put(0, 1);
        due.is("looked()", x.looked(), 0);
        due.is("tale(-1, 0, 0)", x.tale(-1, 0, 0), 0);
        due.is("looked()", x.looked(), NEVER);
        due.is("tale(2, 1, 7)", x.tale(2, 1, 7), 1);
        due.is("looked()", x.looked(), 0);
        x.tale(-1, 0, 0);
        x.put(0, 3);
        x.tale(0, 0, 1);
        due.is("looked()", x.looked(), 0);
    }

    /** An ACT's answer and its TRACE. */
    private static void act(LowWater x, int reader, int act, int arg, int want, int... bodies) {
        String call = "act(" + reader + ", " + act + ", " + arg + ")";
        due.is(call, x.act(reader, act, arg), want);
        due.is("count(7) after " + call, x.count(7), bodies.length);
        for (int i = 0; i < bodies.length; i++) {
            due.is("trace(" + i + ") after " + call, x.trace(i), bodies[i]);
        }
        due.is("trace behind " + call, x.trace(bodies.length), NONE);
        due.is("trace(-1)", x.trace(-1), NONE);
    }

    private static void acts() {
        due.about("promises 29, 30");
        LowWater x = new LowWater();
        act(x, 0, 0, 5, 0);
        x.reader(0, 3);
        x.reader(1, 4);
        x.reader(2, 5);
        x.reader(3, 6);
        act(x, 0, 0, 5, 5, 1);
        act(x, 0, 1, 5, 2, 2, 1);
        act(x, 0, 2, 5, 4, 3, 2, 1);
        act(x, 1, 0, 5, 16, 11, 1);
        act(x, 1, 1, 5, 12, 2, 11, 1);
        act(x, 1, 2, 5, 24, 3, 2, 11, 1);
        act(x, 2, 0, 5, 7, 1);
        act(x, 2, 1, 5, -2, 21, 2, 1);
        act(x, 2, 2, 5, -4, 3, 21, 2, 1);
        act(x, 3, 0, 5, 8, 1);
        act(x, 3, 1, 5, 2, 2, 1);
        act(x, 3, 2, 5, 3, 31, 3, 2, 1);
        act(x, 1, 0, HIGH, HIGH - 1, 11, 1);
        act(x, 3, 0, HIGH, LOW + 2, 1);
        act(x, 0, 1, LOW, HIGH - 2, 2, 1);
        act(x, 0, 2, LOW + 3, 0, 3, 2, 1);
        act(x, 2, 1, LOW + 3, LOW, 21, 2, 1);
        act(x, 3, 3, 5, 0);
        act(x, 3, 2, 5, 3, 31, 3, 2, 1);
        act(x, 3, -1, 5, 0);
        act(x, 0, 0, 5, 5, 1);
        act(x, 4, 0, 5, 0);
        act(x, -1, 0, 5, 0);
    }

    private static void actsUnderOthers() {
        due.about("promises 29, 30, KINDS under others");
        LowWater x = new LowWater();
        x.reader(4, 9);
        x.reader(5, 2);
        x.reader(6, 5);
        x.reader(4, 1);
        act(x, 0, 0, 5, 15, 11, 1);
        act(x, 0, 1, 5, 6, 2, 11, 1);
        act(x, 0, 2, 5, 12, 41, 3, 2, 11, 1, 11, 1);
        act(x, 3, 2, LOW, 2 * (-3 + 3 - 1 + LOW) + 9, 41, 3, 2, 11, 1, 11, 1);
        act(x, 1, 0, 5, 7, 51, 1);
        act(x, 1, 1, 5, -5, 21, 2, 51, 1);
        act(x, 1, 2, 5, -10, 3, 21, 2, 51, 1);
        act(x, 1, 0, 4, 4, 51, 1);
        act(x, 2, 0, 5, 7, 1);
        act(x, 2, 1, 5, 7, 61, 2, 1);
        act(x, 2, 2, 5, 9, 31, 3, 61, 2, 1);
    }

    private static void as() {
        due.about("promise 31");
        int[] above = {-1, 0, 0, 0, 1, 2, 3};
        for (int kind = 0; kind < 7; kind++) {
            LowWater x = new LowWater();
            x.reader(kind, kind + 1);
            for (int k = 0; k < 7; k++) {
                boolean is = k == kind || k == 0 || above[kind] == k;
                due.is("as(0, " + k + ") of kind " + kind, x.as(0, k), is ? kind + 1 : -6);
            }
            due.is("as(0, 7)", x.as(0, 7), NONE);
            due.is("as(0, -1)", x.as(0, -1), NONE);
            due.is("as(1, 0)", x.as(1, 0), NONE);
            due.is("as(-1, 0)", x.as(-1, 0), NONE);
        }
    }

    private static void image() {
        due.about("promises 32, 33");
        LowWater x = new LowWater();
        due.is("undo()", x.undo(), STATE);
        cave(x, "ebb 2 h<12");
        x.feed(';');
        x.slate(1, 2);
        x.slate(7, 3);
        x.reader(2, 7);
        x.hours(9);
        x.ask(0, 1, 1);
        x.see(2, true);
        x.tale(0, 0, 3);
        x.act(0, 0, 5);
        due.is("image()", x.image(), 2);
        due.is("cave()", x.cave(), -10);
        cave(x, "swell 1 h<12;wave 2 h<12");
        x.slate(5, 1);
        x.put(0, 4);
        x.reader(1, 1);
        x.hours(6);
        x.ask(0, 1, 2);
        x.see(-1, true);
        x.tale(0, 1, 5);
        x.act(0, 1, 5);
        x.feed('e');
        x.feed('b');
        due.is("told(1)", x.told(1), 4);
        for (int i = 0; i < 2; i++) {
            due.is("undo()", x.undo(), 2);
            int[] counts = {2, 1, 1, 1, 1, 1, 1, 3};
            for (int what = 0; what < 8; what++) {
                due.is("count(" + what + ")", x.count(what), counts[what]);
            }
            due.is("trace(0)", x.trace(0), 21);
            due.is("told(0)", x.told(0), 9);
            due.is("told(1)", x.told(1), 1);
            due.is("told(2)", x.told(2), 0);
            due.is("level(3)", x.level(3), 4);
            due.is("of(0, 0)", x.of(0, 0), 1);
            due.is("of(0, 1)", x.of(0, 1), 2);
            due.is("of(2, 0)", x.of(2, 0), NONE);
            due.is("at(0, 1)", x.at(0, 1), 7);
            due.is("at(1, 1)", x.at(1, 1), NONE);
            due.is("waits()", x.waits(), 3);
            due.is("stood()", x.stood(), 0x1F8);
            due.is("looked()", x.looked(), 0);
            due.is("cave()", x.cave(), -10);
            due.is("slate(3, 4)", x.slate(3, 4), 2);
            due.is("reader(3, 3)", x.reader(3, 3), 1);
            due.is("at(1, 1)", x.at(1, 1), 3);
            due.is("reader(6, 3)", x.reader(6, 3), 2);
            cave(x, "ebb 9 h<12");
            due.is("level(1)", x.level(1), 0);
        }
        due.is("image()", x.image(), 3);
        x.slate(0, 1);
        due.is("undo()", x.undo(), 3);
        due.is("level(1)", x.level(1), 0);
        x = under("wave 1 d<3");
        x.image();
        due.is("told(1)", x.told(1), 6);
        for (int i = 0; i < 3; i++) {
            cave(x, "swell 2 h<12;wave 3 h<12");
            due.is("told(1)", x.told(1), 8);
            due.is("told(2)", x.told(2), 3);
            x.undo();
            due.is("told(1)", x.told(1), 6);
            due.is("told(2)", x.told(2), 1);
            due.is("count(2)", x.count(2), 1);
        }
        x.hours(36);
        due.is("told(2)", x.told(2), 0);
        x.undo();
        cave(x, "swell 3 h<12");
        due.is("told(1)", x.told(1), 9);
        x.image();
        x.hours(9);
        due.is("undo()", x.undo(), 0);
        due.is("told(0)", x.told(0), 0);
        due.is("told(1)", x.told(1), 9);
        due.is("told(2)", x.told(2), 0);
    }

    private static void count() {
        due.about("promise 34");
        LowWater x = new LowWater();
        int[] want = {1, 2, 3, 4, 5, 6, 7, 3};
        x.slate(1, 1);
        x.reader(0, 0);
        x.reader(0, 0);
        for (int i = 0; i < 3; i++) {
            cave(x, "wave 1 h=1");
        }
        for (int i = 0; i < 4; i++) {
            x.ask(0, 0, 0);
        }
        for (int i = 0; i < 5; i++) {
            x.see(0, true);
        }
        for (int i = 0; i < 6; i++) {
            x.tale(0, 0, 0);
        }
        for (int i = 0; i < 7; i++) {
            x.feed(1);
        }
        x.act(0, 2, 0);
        for (int what = 0; what < 8; what++) {
            due.is("count(" + what + ")", x.count(what), want[what]);
        }
        due.is("count(8)", x.count(8), NONE);
        due.is("count(-1)", x.count(-1), NONE);
        x.act(9, 0, 0);
        due.is("count(7)", x.count(7), 0);
    }

    /** HOURS go on beyond 9999: of 10000 h is 4, d is 7, m is 0. */
    private static void farAhead() {
        due.about("beyond HOUR 9999");
        LowWater x = under("swell 3 d=7&h=4&m=0;wave 3 d=7");
        x.reader(0, 0);
        x.slate(1, 3);
        go(x, 9999);
        due.is("told(0)", x.told(0), 9999);
        due.is("level(0)", x.level(0), 3);
        due.is("level(1)", x.level(1), 5);
        due.is("level(2)", x.level(2), 1);
        due.is("told(2)", x.told(2), 3);
        due.is("soon(0, 0)", x.soon(0, 0), 5);
        due.is("set(0, 1, -1)", x.set(0, 1, -1), 5);
        due.is("force(3)", x.force(3), 1);
        due.is("next(0)", x.next(0), 3);
    }
}
