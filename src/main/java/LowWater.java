import java.util.Arrays;

/** A library in a sea cave: what ../shared/DOC.md promises, the words in capitals are its terms. */
public final class LowWater {
    public static final int NONE = -1, BAD = -2, STATE = -3, FULL = -4;
    /** There is no such number. */
    public static final long NO = Long.MIN_VALUE;

    private static final int NEVER = -5, OF_ANOTHER_KIND = -6;
    private static final int SHELVES = 9, SLATES = 6, READERS = 4, CAVES = 5, TOLD = 8, KINDS = 7;
    private static final int LAST_HOUR = 9999, FAR = 60, NOT_SOON = 61;

    private final State now = new State();
    private final State kept = new State();
    private boolean imageTaken = false;
    private Cave spare = new Cave();
    private final Row trace = new Row(new int[20]);
    private final Orders orders = new Orders();
    private final Orders othersOrders = new Orders();
    private final int[] waited = new int[TOLD];

    public LowWater() {
    }

    // ---- caves, slates, readers.

    public int feed(int sign) {
        if (sign < 0 || sign > 127) {
            return BAD;
        }
        if (now.tape.isFull()) {
            return FULL;
        }
        now.tape.add(sign);
        return now.tape.size;
    }

    public int cave() {
        if (now.caves >= CAVES) {
            return FULL;
        }
        int fault = spare.read(now.tape);
        now.tape.clear();
        if (fault != Cave.NO_FAULT) {
            return -10 - fault;
        }
        Cave before = now.cave;
        now.cave = spare;
        spare = before;
        now.caves++;
        return now.caves - 1;
    }

    public int slate(int shelf, int lines) {
        if (!isShelf(shelf)) {
            return NONE;
        }
        if (lines < 1 || lines > 4) {
            return BAD;
        }
        if (now.shelves.isFull()) {
            return FULL;
        }
        now.shelves.add(shelf);
        now.lines.add(lines);
        return now.shelves.size - 1;
    }

    public int of(int slate, int what) {
        if (!isSlate(slate) || !isWhat(what)) {
            return NONE;
        }
        return what == 0 ? now.shelves.get(slate) : now.lines.get(slate);
    }

    public int put(int slate, int shelf) {
        if (!isSlate(slate) || !isShelf(shelf)) {
            return NONE;
        }
        int before = now.shelves.get(slate);
        now.shelves.replace(slate, shelf);
        return before;
    }

    public int reader(int kind, int v) {
        if (kind < 0 || kind >= KINDS) {
            return NONE;
        }
        if (v < 0 || v > 9) {
            return BAD;
        }
        int number = now.readerCount;
        if (number < 0 || number >= now.readers.length) {
            return FULL;
        }
        now.readers[number] = newReader(kind, number, v);
        now.readerCount++;
        return number;
    }

    public int at(int reader, int what) {
        Reader r = now.readerAt(reader);
        if (r == null || !isWhat(what)) {
            return NONE;
        }
        return what == 0 ? r.kind() : r.v;
    }

    public int needs(int reader, int slate) {
        Reader r = now.readerAt(reader);
        if (r == null || !isSlate(slate)) {
            return NONE;
        }
        return r.hoursFor(now.lines.get(slate));
    }

    public int hours(int n) {
        if (!isNear(n)) {
            return BAD;
        }
        if (now.hour + n > LAST_HOUR) {
            return STATE;
        }
        now.hour += n;
        return now.hour;
    }

    public int told(int what) {
        switch (what) {
            case 0:
                return now.hour;
            case 1:
                return levelIn(0);
            case 2:
                return now.cave.waveAt(now.hour);
            default:
                return NONE;
        }
    }

    public int level(int k) {
        return isNear(k) ? levelIn(k) : BAD;
    }

    // ---- reading.

    public int soon(int reader, int slate) {
        Reader r = now.readerAt(reader);
        if (r == null || !isSlate(slate)) {
            return NONE;
        }
        return r.soonest(now.cave, now.shelves.get(slate), now.lines.get(slate), now.hour);
    }

    public int set(int reader, int set, int k) {
        Reader r = now.readerAt(reader);
        if (r == null || k < -1 || k >= SLATES) {
            return NONE;
        }
        if (!isSet(set)) {
            return BAD;
        }
        orders.begin(now, r, set);
        Orders.goOn(orders, 0, 0, 0);
        return k == -1 ? orders.hoursOf(set) : orders.kth(k);
    }

    public int two(int one, int other, int set, int what) {
        Reader a = now.readerAt(one);
        Reader b = now.readerAt(other);
        if (a == null || b == null || !isWhat(what)) {
            return NONE;
        }
        if (one == other || !isSet(set)) {
            return BAD;
        }
        orders.begin(now, a, set);
        Orders.goOn(orders, 0, 0, 0);
        othersOrders.begin(now, b, set);
        Orders.goOn(othersOrders, 0, 0, 0);
        int least = NEVER;
        int part = NEVER;
        for (int bits = 0; bits <= set; bits++) {
            int hours = (bits & ~set) != 0 ? NEVER : bothDone(bits, set & ~bits);
            if (hours != NEVER && (least == NEVER || hours < least)) {
                least = hours;
                part = bits;
            }
        }
        return what == 0 ? least : part;
    }

    public int ask(int reader, int slate, int k) {
        return tellOf(now.asks, reader, slate, k, 24);
    }

    public int waits() {
        return fillWaited();
    }

    public int shelve(int slate, int what) {
        if (!isSlate(slate) || !isWhat(what)) {
            return NONE;
        }
        fillWaited();
        int best = 0;
        int least = NOT_SOON * TOLD;
        for (int shelf = 0; shelf < SHELVES; shelf++) {
            int sum = waitsIf(slate, shelf, NONE, NONE);
            if (sum <= least) {
                least = sum;
                best = shelf;
            }
        }
        return what == 0 ? best : least;
    }

    public int change() {
        int least = fillWaited();
        int pair = NEVER;
        for (int a = 0; a < now.shelves.size; a++) {
            for (int b = a + 1; b < now.shelves.size; b++) {
                int sum = waitsIf(a, now.shelves.get(b), b, now.shelves.get(a));
                if (sum < least) {
                    least = sum;
                    pair = 10 * a + b;
                }
            }
        }
        return pair;
    }

    // ---- what is dry.

    public int force(int k) {
        if (!isNear(k)) {
            return BAD;
        }
        int level = levelIn(k);
        int bits = 0;
        for (int slate = 0; slate < now.shelves.size; slate++) {
            if (level <= now.shelves.get(slate)) {
                bits |= 1 << slate;
            }
        }
        return bits;
    }

    public int open(int shelf, int n, int what) {
        if (!isShelf(shelf) || !isWhat(what)) {
            return NONE;
        }
        if (!isNear(n)) {
            return BAD;
        }
        int dry = 0;
        int row = 0;
        int longest = 0;
        for (int k = 0; k < n; k++) {
            if (levelIn(k) <= shelf) {
                dry++;
                row++;
                longest = Math.max(longest, row);
            } else {
                row = 0;
            }
        }
        return what == 0 ? dry : longest;
    }

    public int next(int level) {
        if (level < 0 || level > 9) {
            return BAD;
        }
        for (int k = 0; k <= FAR; k++) {
            if (levelIn(k) <= level) {
                return k;
            }
        }
        return NEVER;
    }

    public long safe(int shelf, int n, int part) {
        if (!isShelf(shelf) || n < 0 || n > 12 || !isWhat(part)) {
            return NO;
        }
        long above = 1;
        long below = 1;
        for (int k = 0; k < n; k++) {
            int level = levelIn(k);
            if (level > shelf) {
                above = 0;
            } else if (level == shelf) {
                above *= 10 - now.cave.waveAt(now.hour + k);
                below *= 10;
            }
        }
        return lowestTerms(above, below, part);
    }

    public long mean(int n, int part) {
        if (n < 1 || n > FAR || !isWhat(part)) {
            return NO;
        }
        long sum = 0;
        for (int k = 0; k < n; k++) {
            sum += levelIn(k);
        }
        return lowestTerms(sum, n, part);
    }

    public int see(int k, boolean dry) {
        if (k == -1) {
            now.seen.clear();
            return 0;
        }
        if (!isNear(k)) {
            return BAD;
        }
        if (now.seen.isFull()) {
            return FULL;
        }
        now.seen.add(2 * k + (dry ? 1 : 0));
        return now.seen.size;
    }

    public int stood() {
        int bits = (1 << SHELVES) - 1;
        for (int i = 0; i < now.seen.size; i++) {
            int seen = now.seen.get(i);
            int dryFrom = Math.min(levelIn(seen / 2), SHELVES);
            int wet = (1 << dryFrom) - 1;
            bits &= seen % 2 == 1 ? ~wet : wet;
        }
        return bits;
    }

    public int tale(int reader, int slate, int k) {
        return tellOf(now.tales, reader, slate, k, FAR);
    }

    public int looked() {
        for (int i = 0; i < now.tales.size; i++) {
            int tale = now.tales.get(i);
            int slate = slateIn(tale);
            Reader r = now.readerAt(readerIn(tale));
            int hour = now.hour + hoursIn(tale);
            if (r != null && !r.reads(now.cave, now.shelves.get(slate), now.lines.get(slate), hour)) {
                return i;
            }
        }
        return NEVER;
    }

    // ---- acts, the image.

    public int act(int reader, int act, int x) {
        trace.clear();
        Reader r = now.readerAt(reader);
        if (r == null) {
            return 0;
        }
        switch (act) {
            case 0:
                return r.bodyOfReads(x, trace);
            case 1:
                return r.bodyOfWaits(x, trace);
            case 2:
                return r.bodyOfTells(x, trace);
            default:
                return 0;
        }
    }

    public int trace(int i) {
        return trace.get(i);
    }

    public int as(int reader, int k) {
        Reader r = now.readerAt(reader);
        if (r == null || k < 0 || k >= KINDS) {
            return NONE;
        }
        return r.isA(k) ? r.v : OF_ANOTHER_KIND;
    }

    public int image() {
        kept.takeFrom(now);
        imageTaken = true;
        return now.shelves.size;
    }

    public int undo() {
        if (!imageTaken) {
            return STATE;
        }
        now.takeFrom(kept);
        return now.shelves.size;
    }

    public int count(int what) {
        switch (what) {
            case 0:
                return now.shelves.size;
            case 1:
                return now.readerCount;
            case 2:
                return now.caves;
            case 3:
                return now.asks.size;
            case 4:
                return now.seen.size;
            case 5:
                return now.tales.size;
            case 6:
                return now.tape.size;
            case 7:
                return trace.size;
            default:
                return NONE;
        }
    }

    // ---- what the calls have in common.

    private boolean isSlate(int slate) {
        return slate >= 0 && slate < now.shelves.size;
    }

    private static boolean isShelf(int shelf) {
        return shelf >= 0 && shelf < SHELVES;
    }

    private static boolean isWhat(int what) {
        return what == 0 || what == 1;
    }

    private static boolean isNear(int k) {
        return k >= 0 && k <= FAR;
    }

    private boolean isSet(int set) {
        return set >= 0 && set < 1 << now.shelves.size;
    }

    private int levelIn(int k) {
        return now.cave.levelAt(now.hour + k);
    }

    private static Reader newReader(int kind, int number, int v) {
        switch (kind) {
            case 1:
                return new Fast(number, v);
            case 2:
                return new Diver(number, v);
            case 3:
                return new Rowed(number, v);
            case 4:
                return new Quick(number, v);
            case 5:
                return new Blind(number, v);
            case 6:
                return new Waiting(number, v);
            default:
                return new Reader(number, v);
        }
    }

    /** The HOURS till both are done with their parts. */
    private int bothDone(int ones, int others) {
        int a = orders.hoursOf(ones);
        int b = othersOrders.hoursOf(others);
        return a == NEVER || b == NEVER ? NEVER : Math.max(a, b);
    }

    /** ASKS and TALES come alike; each is kept as one number. */
    private int tellOf(Row told, int reader, int slate, int k, int most) {
        if (reader == -1) {
            told.clear();
            return 0;
        }
        if (now.readerAt(reader) == null || !isSlate(slate)) {
            return NONE;
        }
        if (k < 0 || k > most) {
            return BAD;
        }
        if (told.isFull()) {
            return FULL;
        }
        told.add(reader * 10000 + slate * 100 + k);
        return told.size;
    }

    private static int readerIn(int told) {
        return told / 10000;
    }

    private static int slateIn(int told) {
        return told / 100 % 100;
    }

    private static int hoursIn(int told) {
        return told % 100;
    }

    /** The wait of one ASK, its SLATE on the SHELF. */
    private int waitOn(int ask, int shelf) {
        Reader r = now.readerAt(readerIn(ask));
        if (r == null) {
            return NOT_SOON;
        }
        int lines = now.lines.get(slateIn(ask));
        int hours = r.soonest(now.cave, shelf, lines, now.hour + hoursIn(ask));
        return hours == NEVER ? NOT_SOON : hours;
    }

    /** Keeps what each ASK waits as things are: trying other SHELVES asks for the changed ones alone. */
    private int fillWaited() {
        int sum = 0;
        for (int i = 0; i < now.asks.size && i < waited.length; i++) {
            int ask = now.asks.get(i);
            waited[i] = waitOn(ask, now.shelves.get(slateIn(ask)));
            sum += waited[i];
        }
        return sum;
    }

    /** WAITS, were SLATE a on SHELF onA and SLATE b on SHELF onB (the others' from fillWaited). */
    private int waitsIf(int a, int onA, int b, int onB) {
        int sum = 0;
        for (int i = 0; i < now.asks.size && i < waited.length; i++) {
            int ask = now.asks.get(i);
            int slate = slateIn(ask);
            if (slate == a) {
                sum += waitOn(ask, onA);
            } else if (slate == b) {
                sum += waitOn(ask, onB);
            } else {
                sum += waited[i];
            }
        }
        return sum;
    }

    private static long lowestTerms(long above, long below, int part) {
        long a = above;
        long b = below;
        // Euclid needs fewer than 100 steps for any two longs
        for (int i = 0; i < 100 && b != 0; i++) {
            long rest = a % b;
            a = b;
            b = rest;
        }
        if (a == 0) {
            return NO;
        }
        return part == 0 ? above / a : below / a;
    }

    /** Numbers one behind the other; only as many as there is room for are kept, all are counted. */
    private static final class Row {
        private final int[] items;
        private int size = 0;

        Row(int[] room) {
            items = room;
        }

        boolean isFull() {
            return size >= items.length;
        }

        void add(int item) {
            if (size >= 0 && size < items.length) {
                items[size] = item;
            }
            size++;
        }

        int get(int i) {
            return i >= 0 && i < size && i < items.length ? items[i] : NONE;
        }

        void replace(int i, int item) {
            if (i >= 0 && i < size && i < items.length) {
                items[i] = item;
            }
        }

        void clear() {
            size = 0;
        }

        void takeFrom(Row other) {
            size = other.size;
            for (int i = 0; i < size && i < items.length && i < other.items.length; i++) {
                items[i] = other.items[i];
            }
        }
    }

    /** All that THE IMAGE keeps. */
    private static final class State {
        private int hour = 0;
        private int caves = 0;
        private int readerCount = 0;
        private Cave cave = new Cave();
        private final Reader[] readers = new Reader[READERS];
        private final Row tape = new Row(new int[Cave.MOST]);
        private final Row shelves = new Row(new int[SLATES]);
        private final Row lines = new Row(new int[SLATES]);
        private final Row asks = new Row(new int[TOLD]);
        private final Row seen = new Row(new int[TOLD]);
        private final Row tales = new Row(new int[TOLD]);

        /** Null, if there is no such READER. */
        Reader readerAt(int reader) {
            return reader >= 0 && reader < readerCount && reader < readers.length ? readers[reader] : null;
        }

        void takeFrom(State other) {
            hour = other.hour;
            caves = other.caves;
            readerCount = other.readerCount;
            cave.takeFrom(other.cave);
            for (int i = 0; i < READERS; i++) {
                readers[i] = other.readers[i];
            }
            tape.takeFrom(other.tape);
            shelves.takeFrom(other.shelves);
            lines.takeFrom(other.lines);
            asks.takeFrom(other.asks);
            seen.takeFrom(other.seen);
            tales.takeFrom(other.tales);
        }
    }

    /** A CAVE, its CLAUSES as steps of which each one takes its operands from the ones ahead of it. */
    private static final class Cave {
        private static final int MOST = 100, NO_FAULT = -1;
        private static final int CLAUSES = 10, OPEN = 5;
        /** h, d and m and the LEVEL itself come again after 12 * 14 * 5 HOURS. */
        private static final int ROUND = 840;
        /** Steps 0 .. 8 are the TESTS: 3 times h, d or m, and < = or >. */
        private static final int NOT = 9, AND = 10, OR = 11, SWELL = 12, EBB = 13, WAVE = 14;

        private final int[] steps = new int[MOST];
        private final int[] numbers = new int[MOST];
        private int size = 0;
        /** Of each HOUR of a ROUND 1 and LEVEL and 16 times WAVE; 0: not yet asked for. */
        private final int[] tides = new int[ROUND];
        private Row text = null;
        private int place = 0;

        int levelAt(int hour) {
            int i = Math.floorMod(hour, ROUND);
            if (tides[i] == 0) {
                makeTide(i);
            }
            return tides[i] - 1 & 15;
        }

        int waveAt(int hour) {
            int i = Math.floorMod(hour, ROUND);
            if (tides[i] == 0) {
                makeTide(i);
            }
            return tides[i] - 1 >> 4;
        }

        void takeFrom(Cave other) {
            size = other.size;
            for (int i = 0; i < size && i < MOST; i++) {
                steps[i] = other.steps[i];
                numbers[i] = other.numbers[i];
            }
            System.arraycopy(other.tides, 0, tides, 0, ROUND);
        }

        private void makeTide(int hour) {
            if (hour < 0 || hour >= ROUND) {
                return;
            }
            int h = hour % 12;
            int d = hour / 12 % 14;
            int m = hour % 5;
            int level = Math.abs(h - 6);
            int wave = 0;
            // what holds, the latest one as the lowest bit: of 5 open ones fewer than 32 wait
            int held = 0;
            for (int i = 0; i < size && i < MOST; i++) {
                int step = steps[i];
                int number = numbers[i];
                if (step < NOT) {
                    int value = step < 3 ? h : step < 6 ? d : m;
                    int sign = Integer.compare(value, number) + 1;
                    held = held << 1 | (sign == step % 3 ? 1 : 0);
                } else if (step == NOT) {
                    held ^= 1;
                } else if (step == AND) {
                    held = held >> 1 & (held | ~1);
                } else if (step == OR) {
                    held = held >> 1 | held & 1;
                } else {
                    int n = (held & 1) * number;
                    level += step == SWELL ? n : step == EBB ? -n : 0;
                    wave += step == WAVE ? n : 0;
                    held = 0;
                }
            }
            tides[hour] = 1 + Math.max(0, Math.min(9, level)) + 16 * Math.min(10, wave);
        }

        /** This becomes what the tape tells: its FAULT, or NO_FAULT. */
        int read(Row tape) {
            text = tape;
            place = 0;
            size = 0;
            Arrays.fill(tides, 0);
            for (int i = 0; i < CLAUSES; i++) {
                if (!readClause()) {
                    return place;
                }
                if (place == tape.size) {
                    return NO_FAULT;
                }
                if (i == CLAUSES - 1 || !skip(';')) {
                    return place;
                }
            }
            return place;
        }

        private boolean readClause() {
            int sign = signHere();
            int step = sign == 's' ? SWELL : sign == 'e' ? EBB : WAVE;
            String word = step == SWELL ? "swell " : step == EBB ? "ebb " : "wave ";
            for (int i = 0; i < word.length(); i++) {
                if (!skip(word.charAt(i))) {
                    return false;
                }
            }
            int n = readNumber();
            if (n < 0 || !skip(' ') || !readE(0)) {
                return false;
            }
            addStep(step, n);
            return true;
        }

        private boolean readE(int open) {
            if (!readT(open)) {
                return false;
            }
            for (int i = 0; i < MOST && skip('|'); i++) {
                if (!readT(open)) {
                    return false;
                }
                addStep(OR, 0);
            }
            return true;
        }

        private boolean readT(int open) {
            if (!readF(open)) {
                return false;
            }
            for (int i = 0; i < MOST && skip('&'); i++) {
                if (!readF(open)) {
                    return false;
                }
                addStep(AND, 0);
            }
            return true;
        }

        private boolean readF(int open) {
            int inside = open;
            while (inside < OPEN && skip('!')) {
                inside++;
            }
            if (inside < OPEN && skip('(')) {
                if (!readE(inside + 1) || !skip(')')) {
                    return false;
                }
            } else {
                int what = skip('h') ? 0 : skip('d') ? 1 : skip('m') ? 2 : -1;
                int sign = what < 0 ? -1 : skip('<') ? 0 : skip('=') ? 1 : skip('>') ? 2 : -1;
                int number = sign < 0 ? -1 : readNumber();
                if (number < 0) {
                    return false;
                }
                addStep(3 * what + sign, number);
            }
            for (int i = open; i < inside; i++) {
                addStep(NOT, 0);
            }
            return true;
        }

        /** Less than 0, if there is no number here. */
        private int readNumber() {
            int number = signHere() - '0';
            if (number < 0 || number > 9) {
                return -1;
            }
            place++;
            int digit = signHere() - '0';
            if (number == 0 || digit < 0 || digit > 9) {
                return number;
            }
            place++;
            return 10 * number + digit;
        }

        private boolean skip(int sign) {
            if (signHere() != sign) {
                return false;
            }
            place++;
            return true;
        }

        /** NONE behind the end. */
        private int signHere() {
            boolean there = text != null && place >= 0 && place < text.size && place < text.items.length;
            return there ? text.items[place] : NONE;
        }

        private void addStep(int step, int number) {
            if (size >= 0 && size < MOST) {
                steps[size] = step;
                numbers[size] = number;
                size++;
            }
        }
    }

    /** Of one READER and a set: how soon each part of the set is read, by all orders that can be. */
    private static final class Orders {
        private static final int PARTS = 1 << SLATES;
        /** The last SLATE is begun behind five others, each of FAR HOURS at most. */
        private static final int STARTS = (SLATES - 1) * FAR + 1;

        private State state = null;
        private Reader reader = null;
        private int all = 0;
        private final int[] best = new int[PARTS];
        private final int[] row = new int[SLATES];
        private final int[] bestRow = new int[SLATES];
        /** SOON by SLATE and start, with the number of the asking, so that no call has to clear it. */
        private final int[] soons = new int[SLATES * STARTS];
        private int asking = 0;

        void begin(State from, Reader who, int set) {
            state = from;
            reader = who;
            all = set;
            asking++;
            Arrays.fill(best, NEVER);
        }

        /** An order by ones of the set, done the bits of those read by then; the first as a row comes first. */
        private static void goOn(Orders orders, int depth, int done, int time) {
            if (done < 0 || done >= PARTS) {
                return;
            }
            if (orders.best[done] == NEVER || time < orders.best[done]) {
                orders.best[done] = time;
                if (done == orders.all) {
                    System.arraycopy(orders.row, 0, orders.bestRow, 0, SLATES);
                }
            }
            if (depth < 0 || depth >= SLATES) {
                return;
            }
            int left = orders.all & ~done;
            for (int slate = 0; slate < SLATES; slate++) {
                int hours = (left & 1 << slate) == 0 ? NEVER : orders.soonFrom(slate, time);
                if (hours != NEVER) {
                    orders.row[depth] = slate;
                    goOn(orders, depth + 1, done | 1 << slate, time + hours);
                }
            }
        }

        int hoursOf(int part) {
            return part >= 0 && part < PARTS ? best[part] : NEVER;
        }

        int kth(int k) {
            boolean there = k >= 0 && k < SLATES && k < Integer.bitCount(all);
            return there && hoursOf(all) != NEVER ? bestRow[k] : NEVER;
        }

        private int soonFrom(int slate, int time) {
            int i = slate * STARTS + time;
            if (reader == null || state == null || i < 0 || i >= soons.length) {
                return NEVER;
            }
            if (soons[i] >> 8 != asking) {
                int lines = state.lines.get(slate);
                int hours = reader.soonest(state.cave, state.shelves.get(slate), lines, state.hour + time);
                soons[i] = asking << 8 | (hours == NEVER ? NOT_SOON : hours);
            }
            int hours = soons[i] & 255;
            return hours == NOT_SOON ? NEVER : hours;
        }
    }

    private static class Reader {
        final int number;
        final int v;

        Reader(int number, int v) {
            this.number = number;
            this.v = v;
        }

        int kind() {
            return 0;
        }

        /** Of this KIND, or of one under it. */
        boolean isA(int kind) {
            return kind == 0;
        }

        int hoursFor(int lines) {
            return lines;
        }

        boolean reaches(int shelf, int level) {
            return level <= shelf;
        }

        boolean mayBegin(Cave cave, int hour) {
            return true;
        }

        final boolean reads(Cave cave, int shelf, int lines, int hour) {
            int need = hoursFor(lines);
            for (int i = 0; i < need; i++) {
                if (!reaches(shelf, cave.levelAt(hour + i))) {
                    return false;
                }
            }
            return mayBegin(cave, hour);
        }

        /** SOON, but from that HOUR on. */
        final int soonest(Cave cave, int shelf, int lines, int hour) {
            int need = hoursFor(lines);
            int open = 0;
            for (int i = 0; i < FAR; i++) {
                open = reaches(shelf, cave.levelAt(hour + i)) ? open + 1 : 0;
                if (open >= need && mayBegin(cave, hour + i + 1 - need)) {
                    return i + 1;
                }
            }
            return NEVER;
        }

        int bodyOfReads(int x, Row trace) {
            trace.add(1);
            return x + number;
        }

        int bodyOfWaits(int x, Row trace) {
            trace.add(2);
            return bodyOfReads(x, trace) - v;
        }

        int bodyOfTells(int x, Row trace) {
            trace.add(3);
            return bodyOfWaits(x, trace) * 2;
        }
    }

    private static class Fast extends Reader {
        Fast(int number, int v) {
            super(number, v);
        }

        int kind() {
            return 1;
        }

        boolean isA(int kind) {
            return kind == 1 || super.isA(kind);
        }

        int hoursFor(int lines) {
            return (lines + 1) / 2;
        }

        int bodyOfReads(int x, Row trace) {
            trace.add(11);
            return super.bodyOfReads(x * 3, trace);
        }
    }

    private static class Diver extends Reader {
        Diver(int number, int v) {
            super(number, v);
        }

        int kind() {
            return 2;
        }

        boolean isA(int kind) {
            return kind == 2 || super.isA(kind);
        }

        boolean reaches(int shelf, int level) {
            return level <= shelf + v % 3;
        }

        int bodyOfWaits(int x, Row trace) {
            trace.add(21);
            return -super.bodyOfWaits(x, trace);
        }
    }

    private static class Rowed extends Reader {
        Rowed(int number, int v) {
            super(number, v);
        }

        int kind() {
            return 3;
        }

        boolean isA(int kind) {
            return kind == 3 || super.isA(kind);
        }

        boolean mayBegin(Cave cave, int hour) {
            return Math.floorMod(hour, Math.max(1, v % 3 + 1)) == 0;
        }

        int bodyOfTells(int x, Row trace) {
            trace.add(31);
            return super.bodyOfTells(x, trace) ^ 7;
        }
    }

    private static final class Quick extends Fast {
        Quick(int number, int v) {
            super(number, v);
        }

        int kind() {
            return 4;
        }

        boolean isA(int kind) {
            return kind == 4 || super.isA(kind);
        }

        int hoursFor(int lines) {
            int hours = super.hoursFor(lines);
            return v > 4 ? Math.max(1, hours - 1) : hours;
        }

        int bodyOfTells(int x, Row trace) {
            trace.add(41);
            return super.bodyOfTells(x - 1, trace) + bodyOfReads(2, trace);
        }
    }

    private static final class Blind extends Diver {
        Blind(int number, int v) {
            super(number, v);
        }

        int kind() {
            return 5;
        }

        boolean isA(int kind) {
            return kind == 5 || super.isA(kind);
        }

        int hoursFor(int lines) {
            return 2 * lines;
        }

        int bodyOfReads(int x, Row trace) {
            trace.add(51);
            return super.bodyOfReads(x, trace) ^ number;
        }
    }

    private static final class Waiting extends Rowed {
        Waiting(int number, int v) {
            super(number, v);
        }

        int kind() {
            return 6;
        }

        boolean isA(int kind) {
            return kind == 6 || super.isA(kind);
        }

        boolean mayBegin(Cave cave, int hour) {
            int ahead = hour == 0 ? 11 : hour - 1;
            return super.mayBegin(cave, hour) && cave.levelAt(hour) <= cave.levelAt(ahead);
        }

        int bodyOfWaits(int x, Row trace) {
            trace.add(61);
            return super.bodyOfWaits(x, trace) + v;
        }
    }
}
