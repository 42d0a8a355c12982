import java.util.ArrayList;
import java.util.Arrays;
import java.util.List;

/** The document once more, written as naively as can be: every answer is worked out anew from what was told. */
final class Model {
    static final int NONE = -1, BAD = -2, STATE = -3, FULL = -4, NEVER = -5;
    static final long NO = Long.MIN_VALUE;
    private static final int[] ABOVE = {-1, 0, 0, 0, 1, 2, 3};

    /** What an image keeps. */
    private static final class Kept {
        int hour = 0;
        int caves = 0;
        String cave = "";
        String tape = "";
        List<int[]> slates = new ArrayList<>();
        List<int[]> readers = new ArrayList<>();
        List<int[]> asks = new ArrayList<>();
        List<int[]> seen = new ArrayList<>();
        List<int[]> tales = new ArrayList<>();

        Kept copy() {
            Kept c = new Kept();
            c.hour = hour;
            c.caves = caves;
            c.cave = cave;
            c.tape = tape;
            for (int[] s : slates) {
                c.slates.add(s.clone());
            }
            c.readers.addAll(readers);
            c.asks.addAll(asks);
            c.seen.addAll(seen);
            c.tales.addAll(tales);
            return c;
        }
    }

    private Kept now = new Kept();
    private Kept image = null;
    private List<Integer> trace = new ArrayList<>();

    // ---- caves

    /** -1, if the text is a CAVE: else its FAULT. The text goes by sign through states, what is open on a pile. */
    static int fault(String text) {
        String state = "clause";
        String open = "";
        int clauses = 0;
        for (int i = 0; i < text.length(); i++) {
            char c = text.charAt(i);
            String to = "";
            if (state.equals("clause")) {
                to = c == 's' ? "well " : c == 'e' ? "bb " : c == 'w' ? "ave " : "";
                clauses++;
            } else if (Character.isLowerCase(state.charAt(0)) && state.endsWith(" ")) {
                to = c != state.charAt(0) ? "" : state.length() == 2 ? " " : state.substring(1);
            } else if (state.equals(" ")) {
                to = c == ' ' ? "N" : "";
            } else if (state.equals("N")) {
                to = c == '0' ? "N2" : c >= '1' && c <= '9' ? "N1" : "";
            } else if (state.equals("N1") && c >= '0' && c <= '9') {
                to = "N2";
            } else if (state.startsWith("N")) {
                to = c == ' ' ? "F" : "";
            } else if (state.equals("F")) {
                if (c == '!' || c == '(') {
                    open += c;
                    to = open.length() <= 5 ? "F" : "";
                } else {
                    to = c == 'h' || c == 'd' || c == 'm' ? "C" : "";
                }
            } else if (state.equals("C")) {
                to = c == '<' || c == '=' || c == '>' ? "V" : "";
            } else if (state.equals("V")) {
                to = c == '0' ? "A" : c >= '1' && c <= '9' ? "V1" : "";
            } else if (state.equals("V1") && c >= '0' && c <= '9') {
                to = "A";
            } else {
                open = endOfF(open);
                if (c == '&' || c == '|') {
                    to = "F";
                } else if (c == ')' && !open.isEmpty()) {
                    open = open.substring(0, open.length() - 1);
                    to = "A";
                } else if (c == ';' && open.isEmpty() && clauses < 10) {
                    to = "clause";
                }
            }
            if (to.isEmpty()) {
                return i;
            }
            state = to;
        }
        boolean whole = (state.equals("A") || state.equals("V1")) && endOfF(open).isEmpty();
        return whole ? -1 : text.length();
    }

    private static String endOfF(String open) {
        String left = open;
        while (left.endsWith("!")) {
            left = left.substring(0, left.length() - 1);
        }
        return left;
    }

    /** The place of the first such sign outside of all ( and ), or -1. */
    private static int outside(String e, char sign) {
        int deep = 0;
        for (int i = 0; i < e.length(); i++) {
            char c = e.charAt(i);
            deep += c == '(' ? 1 : c == ')' ? -1 : 0;
            if (deep == 0 && c == sign) {
                return i;
            }
        }
        return -1;
    }

    private static boolean holds(String e, int hour) {
        int or = outside(e, '|');
        if (or >= 0) {
            return holds(e.substring(0, or), hour) || holds(e.substring(or + 1), hour);
        }
        int and = outside(e, '&');
        if (and >= 0) {
            return holds(e.substring(0, and), hour) && holds(e.substring(and + 1), hour);
        }
        if (e.charAt(0) == '!') {
            return !holds(e.substring(1), hour);
        }
        if (e.charAt(0) == '(') {
            return holds(e.substring(1, e.length() - 1), hour);
        }
        int value = e.charAt(0) == 'h' ? hour % 12 : e.charAt(0) == 'd' ? hour / 12 % 14 : hour % 5;
        int number = Integer.parseInt(e.substring(2));
        return e.charAt(1) == '<' ? value < number : e.charAt(1) == '=' ? value == number : value > number;
    }

    private int sum(String word, int hour) {
        int sum = 0;
        for (String clause : now.cave.isEmpty() ? new String[0] : now.cave.split(";")) {
            String[] parts = clause.split(" ");
            if (parts[0].equals(word) && holds(parts[2], hour)) {
                sum += Integer.parseInt(parts[1]);
            }
        }
        return sum;
    }

    private int levelAt(int hour) {
        int level = Math.abs(hour % 12 - 6) + sum("swell", hour) - sum("ebb", hour);
        return level < 0 ? 0 : level > 9 ? 9 : level;
    }

    private int waveAt(int hour) {
        return Math.min(10, sum("wave", hour));
    }

    private boolean dry(int shelf, int hour) {
        return levelAt(hour) <= shelf;
    }

    int feed(int sign) {
        if (sign < 0 || sign > 127) {
            return BAD;
        }
        if (now.tape.length() == 100) {
            return FULL;
        }
        now.tape += (char) sign;
        return now.tape.length();
    }

    int cave() {
        if (now.caves == 5) {
            return FULL;
        }
        String text = now.tape;
        now.tape = "";
        int fault = fault(text);
        if (fault >= 0) {
            return -10 - fault;
        }
        now.cave = text;
        return now.caves++;
    }

    // ---- slates, readers

    private boolean isSlate(int i) {
        return i >= 0 && i < now.slates.size();
    }

    private boolean isReader(int i) {
        return i >= 0 && i < now.readers.size();
    }

    int slate(int shelf, int lines) {
        if (shelf < 0 || shelf > 8) {
            return NONE;
        }
        if (lines < 1 || lines > 4) {
            return BAD;
        }
        if (now.slates.size() == 6) {
            return FULL;
        }
        now.slates.add(new int[] {shelf, lines});
        return now.slates.size() - 1;
    }

    int of(int slate, int what) {
        return !isSlate(slate) || what < 0 || what > 1 ? NONE : now.slates.get(slate)[what];
    }

    int put(int slate, int shelf) {
        if (!isSlate(slate) || shelf < 0 || shelf > 8) {
            return NONE;
        }
        int was = now.slates.get(slate)[0];
        now.slates.get(slate)[0] = shelf;
        return was;
    }

    int reader(int kind, int v) {
        if (kind < 0 || kind > 6) {
            return NONE;
        }
        if (v < 0 || v > 9) {
            return BAD;
        }
        if (now.readers.size() == 4) {
            return FULL;
        }
        now.readers.add(new int[] {kind, v});
        return now.readers.size() - 1;
    }

    int at(int reader, int what) {
        return !isReader(reader) || what < 0 || what > 1 ? NONE : now.readers.get(reader)[what];
    }

    private int need(int reader, int slate) {
        int lines = now.slates.get(slate)[1];
        int half = lines == 1 ? 1 : lines == 2 ? 1 : 2;
        switch (now.readers.get(reader)[0]) {
            case 1:
                return half;
            case 4:
                return now.readers.get(reader)[1] > 4 ? 1 : half;
            case 5:
                return lines + lines;
            default:
                return lines;
        }
    }

    int needs(int reader, int slate) {
        return !isReader(reader) || !isSlate(slate) ? NONE : need(reader, slate);
    }

    int hours(int n) {
        if (n < 0 || n > 60) {
            return BAD;
        }
        if (now.hour + n > 9999) {
            return STATE;
        }
        now.hour += n;
        return now.hour;
    }

    int told(int what) {
        return what == 0 ? now.hour : what == 1 ? levelAt(now.hour) : what == 2 ? waveAt(now.hour) : NONE;
    }

    int level(int k) {
        return k < 0 || k > 60 ? BAD : levelAt(now.hour + k);
    }

    // ---- reading

    private boolean openTo(int reader, int shelf, int hour) {
        int kind = now.readers.get(reader)[0];
        int more = kind == 2 || kind == 5 ? now.readers.get(reader)[1] % 3 : 0;
        return levelAt(hour) <= shelf + more;
    }

    private boolean begins(int reader, int hour) {
        int kind = now.readers.get(reader)[0];
        if (kind != 3 && kind != 6) {
            return true;
        }
        if (hour % (now.readers.get(reader)[1] % 3 + 1) != 0) {
            return false;
        }
        return kind == 3 || levelAt(hour) <= levelAt(hour == 0 ? 11 : hour - 1);
    }

    private boolean canRead(int reader, int slate, int hour) {
        boolean can = begins(reader, hour);
        for (int i = 0; i < need(reader, slate); i++) {
            can = can && openTo(reader, now.slates.get(slate)[0], hour + i);
        }
        return can;
    }

    private int soonFrom(int reader, int slate, int hour) {
        for (int k = 0; k + need(reader, slate) <= 60; k++) {
            if (canRead(reader, slate, hour + k)) {
                return k + need(reader, slate);
            }
        }
        return NEVER;
    }

    int soon(int reader, int slate) {
        return !isReader(reader) || !isSlate(slate) ? NONE : soonFrom(reader, slate, now.hour);
    }

    private static void rows(List<Integer> left, List<Integer> row, List<List<Integer>> all) {
        if (left.isEmpty()) {
            all.add(new ArrayList<>(row));
        }
        for (Integer one : left) {
            List<Integer> others = new ArrayList<>(left);
            others.remove(one);
            row.add(one);
            rows(others, row, all);
            row.remove(row.size() - 1);
        }
    }

    /** The HOURS, then the order: the HOURS alone, if there is none. */
    private List<Integer> best(int reader, int set) {
        List<Integer> slates = new ArrayList<>();
        for (int i = 0; i < 6; i++) {
            if ((set >> i & 1) == 1) {
                slates.add(i);
            }
        }
        List<List<Integer>> all = new ArrayList<>();
        rows(slates, new ArrayList<>(), all);
        List<Integer> best = new ArrayList<>(List.of(NEVER));
        int[][] known = new int[6][400];
        for (List<Integer> row : all) {
            int time = 0;
            for (int slate : row) {
                if (time >= 0 && known[slate][time] == 0) {
                    known[slate][time] = soonFrom(reader, slate, now.hour + time);
                }
                time = time < 0 || known[slate][time] == NEVER ? NEVER : time + known[slate][time];
            }
            if (time != NEVER && (best.get(0) == NEVER || time < best.get(0))) {
                best.clear();
                best.add(time);
                best.addAll(row);
            }
        }
        return best;
    }

    private boolean isSet(int set) {
        return set >= 0 && set < Math.pow(2, now.slates.size());
    }

    int set(int reader, int set, int k) {
        if (!isReader(reader) || k < -1 || k > 5) {
            return NONE;
        }
        if (!isSet(set)) {
            return BAD;
        }
        List<Integer> best = best(reader, set);
        return k + 1 < best.size() ? best.get(k + 1) : NEVER;
    }

    int two(int one, int other, int set, int what) {
        if (!isReader(one) || !isReader(other) || what < 0 || what > 1) {
            return NONE;
        }
        if (one == other || !isSet(set)) {
            return BAD;
        }
        int least = NEVER;
        int part = NEVER;
        for (int bits = 0; bits < 64; bits++) {
            if ((bits | set) != set) {
                continue;
            }
            int a = best(one, bits).get(0);
            int b = best(other, set - bits).get(0);
            if (a != NEVER && b != NEVER && (least == NEVER || Math.max(a, b) < least)) {
                least = Math.max(a, b);
                part = bits;
            }
        }
        return what == 0 ? least : part;
    }

    private int told(List<int[]> list, int reader, int slate, int k, int most) {
        if (reader == -1) {
            list.clear();
            return 0;
        }
        if (!isReader(reader) || !isSlate(slate)) {
            return NONE;
        }
        if (k < 0 || k > most) {
            return BAD;
        }
        if (list.size() == 8) {
            return FULL;
        }
        list.add(new int[] {reader, slate, k});
        return list.size();
    }

    int ask(int reader, int slate, int k) {
        return told(now.asks, reader, slate, k, 24);
    }

    int waits() {
        int sum = 0;
        for (int[] ask : now.asks) {
            int soon = soonFrom(ask[0], ask[1], now.hour + ask[2]);
            sum += soon == NEVER ? 61 : soon;
        }
        return sum;
    }

    int shelve(int slate, int what) {
        if (!isSlate(slate) || what < 0 || what > 1) {
            return NONE;
        }
        int was = now.slates.get(slate)[0];
        int[] waits = new int[9];
        for (int shelf = 0; shelf < 9; shelf++) {
            now.slates.get(slate)[0] = shelf;
            waits[shelf] = waits();
        }
        now.slates.get(slate)[0] = was;
        int best = 8;
        for (int shelf = 7; shelf >= 0; shelf--) {
            best = waits[shelf] < waits[best] ? shelf : best;
        }
        return what == 0 ? best : waits[best];
    }

    private void swap(int a, int b) {
        int was = now.slates.get(a)[0];
        now.slates.get(a)[0] = now.slates.get(b)[0];
        now.slates.get(b)[0] = was;
    }

    int change() {
        int least = waits();
        int pair = NEVER;
        for (int a = 0; a < now.slates.size(); a++) {
            for (int b = a + 1; b < now.slates.size(); b++) {
                swap(a, b);
                int waits = waits();
                swap(a, b);
                if (waits < least) {
                    least = waits;
                    pair = 10 * a + b;
                }
            }
        }
        return pair;
    }

    // ---- what is dry

    int force(int k) {
        if (k < 0 || k > 60) {
            return BAD;
        }
        int bits = 0;
        for (int i = 0; i < now.slates.size(); i++) {
            bits += dry(now.slates.get(i)[0], now.hour + k) ? (int) Math.pow(2, i) : 0;
        }
        return bits;
    }

    int open(int shelf, int n, int what) {
        if (shelf < 0 || shelf > 8 || what < 0 || what > 1) {
            return NONE;
        }
        if (n < 0 || n > 60) {
            return BAD;
        }
        StringBuilder row = new StringBuilder();
        for (int k = 0; k < n; k++) {
            row.append(dry(shelf, now.hour + k) ? 'd' : ' ');
        }
        int all = 0;
        int longest = 0;
        for (String dry : row.toString().trim().split(" +")) {
            all += dry.length();
            longest = Math.max(longest, dry.length());
        }
        return what == 0 ? all : longest;
    }

    int next(int level) {
        if (level < 0 || level > 9) {
            return BAD;
        }
        int k = 0;
        while (k <= 60 && levelAt(now.hour + k) > level) {
            k++;
        }
        return k > 60 ? NEVER : k;
    }

    private static long lowest(long above, long below, int part) {
        java.math.BigInteger a = java.math.BigInteger.valueOf(above);
        long by = a.gcd(java.math.BigInteger.valueOf(below)).longValue();
        return (part == 0 ? above : below) / by;
    }

    long safe(int shelf, int n, int part) {
        if (shelf < 0 || shelf > 8 || n < 0 || n > 12 || part < 0 || part > 1) {
            return NO;
        }
        long above = 1;
        long below = 1;
        for (int k = 0; k < n; k++) {
            int hour = now.hour + k;
            int calm = levelAt(hour) <= shelf ? 10 - waveAt(hour) : 0;
            int wave = levelAt(hour) + 1 <= shelf ? waveAt(hour) : 0;
            above *= calm + wave;
            below *= 10;
        }
        return lowest(above, below, part);
    }

    long mean(int n, int part) {
        if (n < 1 || n > 60 || part < 0 || part > 1) {
            return NO;
        }
        int sum = 0;
        for (int k = 0; k < n; k++) {
            sum += levelAt(now.hour + k);
        }
        return lowest(sum, n, part);
    }

    int see(int k, boolean dry) {
        if (k == -1) {
            now.seen.clear();
            return 0;
        }
        if (k < 0 || k > 60) {
            return BAD;
        }
        if (now.seen.size() == 8) {
            return FULL;
        }
        now.seen.add(new int[] {k, dry ? 1 : 0});
        return now.seen.size();
    }

    int stood() {
        int bits = 0;
        for (int shelf = 0; shelf < 9; shelf++) {
            boolean all = true;
            for (int[] seen : now.seen) {
                all = all && dry(shelf, now.hour + seen[0]) == (seen[1] == 1);
            }
            bits += all ? (int) Math.pow(2, shelf) : 0;
        }
        return bits;
    }

    int tale(int reader, int slate, int k) {
        return told(now.tales, reader, slate, k, 60);
    }

    int looked() {
        for (int i = 0; i < now.tales.size(); i++) {
            int[] tale = now.tales.get(i);
            if (!canRead(tale[0], tale[1], now.hour + tale[2])) {
                return i;
            }
        }
        return NEVER;
    }

    // ---- acts, the image

    private static int bodyOf(int kind, int act) {
        switch (10 * kind + act) {
            case 0:
                return 1;
            case 1:
                return 2;
            case 2:
                return 3;
            case 10:
                return 11;
            case 21:
                return 21;
            case 32:
                return 31;
            case 42:
                return 41;
            case 50:
                return 51;
            case 61:
                return 61;
            default:
                return 0;
        }
    }

    private int run(int reader, int from, int act, int x) {
        int kind = from;
        while (bodyOf(kind, act) == 0) {
            kind = ABOVE[kind];
        }
        int own = now.readers.get(reader)[0];
        int v = now.readers.get(reader)[1];
        int body = bodyOf(kind, act);
        trace.add(body);
        switch (body) {
            case 1:
                return x + reader;
            case 2:
                return run(reader, own, 0, x) - v;
            case 3:
                return run(reader, own, 1, x) * 2;
            case 11:
                return run(reader, ABOVE[kind], 0, x * 3);
            case 21:
                return -run(reader, ABOVE[kind], 1, x);
            case 31:
                return run(reader, ABOVE[kind], 2, x) ^ 7;
            case 41:
                int told = run(reader, ABOVE[kind], 2, x - 1);
                return told + run(reader, own, 0, 2);
            case 51:
                return run(reader, ABOVE[kind], 0, x) ^ reader;
            default:
                return run(reader, ABOVE[kind], 1, x) + v;
        }
    }

    int act(int reader, int act, int x) {
        trace = new ArrayList<>();
        return !isReader(reader) || act < 0 || act > 2 ? 0 : run(reader, now.readers.get(reader)[0], act, x);
    }

    int trace(int i) {
        return i < 0 || i >= Math.min(20, trace.size()) ? NONE : trace.get(i);
    }

    int as(int reader, int k) {
        if (!isReader(reader) || k < 0 || k > 6) {
            return NONE;
        }
        for (int kind = now.readers.get(reader)[0]; kind >= 0; kind = ABOVE[kind]) {
            if (kind == k) {
                return now.readers.get(reader)[1];
            }
        }
        return -6;
    }

    int image() {
        image = now.copy();
        return now.slates.size();
    }

    int undo() {
        if (image == null) {
            return STATE;
        }
        now = image.copy();
        return now.slates.size();
    }

    int count(int what) {
        List<Integer> counts = Arrays.asList(now.slates.size(), now.readers.size(), now.caves, now.asks.size(),
            now.seen.size(), now.tales.size(), now.tape.length(), trace.size());
        return what < 0 || what > 7 ? NONE : counts.get(what);
    }
}
