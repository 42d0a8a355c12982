/** Objects as the tests want them. */
final class Make {
    private Make() {
    }

    static void feed(LowWater x, String text) {
        for (int i = 0; i < text.length(); i++) {
            x.feed(text.charAt(i));
        }
    }

    static int cave(LowWater x, String text) {
        feed(x, text);
        return x.cave();
    }

    /** A new object under that CAVE. */
    static LowWater under(String text) {
        LowWater x = new LowWater();
        int number = cave(x, text);
        if (number != 0) {
            throw new IllegalStateException("cave() of '" + text + "' answered " + number);
        }
        return x;
    }

    /** HOURS go by till it is that HOUR: 167 calls at most. */
    static LowWater go(LowWater x, int hour) {
        for (int left = hour - x.told(0); left > 0; left -= 60) {
            x.hours(Math.min(60, left));
        }
        return x;
    }

    /** By two: SHELF and LINES. */
    static LowWater slates(LowWater x, int... told) {
        for (int i = 0; i + 1 < told.length; i += 2) {
            x.slate(told[i], told[i + 1]);
        }
        return x;
    }

    /** By two: KIND and v. */
    static LowWater readers(LowWater x, int... told) {
        for (int i = 0; i + 1 < told.length; i += 2) {
            x.reader(told[i], told[i + 1]);
        }
        return x;
    }

    /** SLATES on SHELVES 6, 3 and 0, READERS of KINDS 0, 4, 5 and 6, something told of all; HOUR 2, THE TRACE is 2, 1. */
    static LowWater library() {
        LowWater x = under("swell 1 m=2;ebb 1 h=9;wave 3 h<7");
        slates(x, 6, 1, 3, 2, 0, 1);
        readers(x, 0, 1, 4, 5, 5, 2, 6, 3);
        feed(x, "ebb");
        x.hours(2);
        x.ask(0, 0, 1);
        x.ask(1, 1, 2);
        x.see(1, true);
        x.see(2, false);
        x.see(5, true);
        x.tale(0, 0, 1);
        x.tale(2, 2, 3);
        x.tale(1, 1, 9);
        x.tale(3, 0, 1);
        x.act(0, 1, 5);
        return x;
    }

    /** The same, and nothing more can come: 6 SLATES, 4 READERS, 8 of all that is told, 100 bytes, 5 CAVES. */
    static LowWater full() {
        LowWater x = library();
        slates(x, 8, 4, 1, 3, 5, 2);
        for (int i = 0; i < 8; i++) {
            x.ask(i % 4, i % 6, 3 * i);
            x.see(7 * i, true);
            x.tale(i % 4, i % 6, 7 * i);
        }
        x.cave();
        for (int i = 0; i < 4; i++) {
            cave(x, "ebb 1 h=3");
        }
        for (int i = 0; i < 100; i++) {
            x.feed(i % 128);
        }
        return x;
    }

    /** All that can be asked for and is not dear to ask: 64 calls. */
    static String look(LowWater x) {
        StringBuilder all = new StringBuilder();
        for (int what = 0; what < 8; what++) {
            all.append(" count ").append(x.count(what));
        }
        for (int i = 0; i < 6; i++) {
            all.append(" of ").append(x.of(i, 0)).append(' ').append(x.of(i, 1));
        }
        for (int i = 0; i < 4; i++) {
            all.append(" at ").append(x.at(i, 0)).append(' ').append(x.at(i, 1));
        }
        for (int what = 0; what < 3; what++) {
            all.append(" told ").append(x.told(what));
        }
        for (int k = 1; k <= 20; k++) {
            all.append(" level ").append(x.level(k));
        }
        for (int i = 0; i < 3; i++) {
            all.append(" trace ").append(x.trace(i));
        }
        all.append(" mean ").append(x.mean(60, 0)).append('/').append(x.mean(60, 1));
        all.append(" safe ").append(x.safe(6, 3, 0)).append('/').append(x.safe(6, 3, 1));
        all.append(" waits ").append(x.waits()).append(" change ").append(x.change());
        all.append(" stood ").append(x.stood()).append(" looked ").append(x.looked());
        return all.toString();
    }
}
