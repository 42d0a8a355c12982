import java.lang.reflect.InvocationTargetException;
import java.lang.reflect.Method;
import java.util.Arrays;
import java.util.HashMap;
import java.util.Map;

/** Every call with all its edges at once (too small, the ends, too large), answered by the class and by the Model. */
public final class GridTest {
    private static final int LOW = Integer.MIN_VALUE, HIGH = Integer.MAX_VALUE;
    private static final int[] SIGN = {LOW, -1, 0, 59, 127, 128, HIGH};
    private static final int[] SHELF = {LOW, -1, 0, 8, 9, HIGH};
    private static final int[] LINES = {LOW, 0, 1, 4, 5, HIGH};
    private static final int[] SLATE = {LOW, -1, 0, 2, 3, 5, 6, HIGH};
    private static final int[] READER = {LOW, -2, -1, 0, 3, 4, HIGH};
    private static final int[] KIND = {LOW, -1, 0, 6, 7, HIGH};
    private static final int[] V = {LOW, -1, 0, 9, 10, HIGH};
    private static final int[] WHAT = {LOW, -1, 0, 1, 2, HIGH};
    private static final int[] NEAR = {LOW, -1, 0, 60, 61, HIGH};
    private static final int[] ASKED = {LOW, -1, 0, 24, 25, HIGH};
    private static final int[] SEEN = {LOW, -2, -1, 0, 60, 61, HIGH};
    private static final int[] LEVEL = {LOW, -1, 0, 9, 10, HIGH};
    private static final int[] TWELVE = {LOW, -1, 0, 12, 13, HIGH};
    private static final int[] SIXTY = {LOW, 0, 1, 60, 61, HIGH};
    private static final int[] ORDER = {LOW, -2, -1, 0, 2, 3, 5, 6, HIGH};
    private static final int[] SET = {LOW, -1, 0, 1, 7, 8, 63, 64, HIGH};
    private static final int[] FEW_SETS = {-1, 0, 1, 7, 8, 63, 64};
    private static final int[] FEW_READERS = {-1, 0, 3, 4};
    private static final int[] FEW_WHATS = {-1, 0, 1, 2};
    private static final int[] ACT = {LOW, -1, 0, 1, 2, 3, HIGH};
    private static final int[] ARGUMENT = {LOW, -1, 0, HIGH};
    private static final int[] PLACE = {LOW, -1, 0, 1, 2, 6, 7, 19, 20, HIGH};
    private static final int[] COUNTED = {LOW, -1, 0, 1, 2, 3, 4, 5, 6, 7, 8, HIGH};
    private static final int[] YES_NO = {0, 1};
    private static final Due due = new Due();
    private static final Map<String, Method> methods = new HashMap<>();

    private final int state;
    private LowWater x;
    private Model model;
    private int worn;

    private GridTest(int state) {
        this.state = state;
    }

    public static void main(String[] args) {
        for (Class<?> of : new Class<?>[] {LowWater.class, Model.class}) {
            for (Method m : of.getDeclaredMethods()) {
                methods.put(of.getName() + "." + m.getName() + "/" + m.getParameterCount(), m);
            }
        }
        for (int state = 0; state < 5; state++) {
            new GridTest(state).run();
        }
        due.end();
    }

    private void run() {
        build();
        grid("feed", SIGN);
        grid("cave");
        grid("slate", SHELF, LINES);
        grid("of", SLATE, WHAT);
        grid("put", SLATE, SHELF);
        grid("reader", KIND, V);
        grid("at", READER, WHAT);
        grid("needs", READER, SLATE);
        grid("hours", NEAR);
        grid("told", ARGUMENT);
        grid("told", WHAT);
        grid("level", NEAR);
        grid("soon", READER, SLATE);
        grid("set", READER, SET, ORDER);
        grid("two", FEW_READERS, FEW_READERS, FEW_SETS, FEW_WHATS);
        grid("ask", READER, SLATE, ASKED);
        grid("waits");
        grid("shelve", SLATE, WHAT);
        grid("change");
        grid("force", NEAR);
        grid("open", SHELF, NEAR, WHAT);
        grid("next", LEVEL);
        grid("safe", SHELF, TWELVE, WHAT);
        grid("mean", SIXTY, WHAT);
        grid("see", SEEN, YES_NO);
        grid("stood");
        grid("tale", READER, SLATE, NEAR);
        grid("looked");
        grid("act", READER, ACT, ARGUMENT);
        grid("trace", PLACE);
        grid("as", READER, KIND);
        grid("image");
        grid("undo");
        grid("count", COUNTED);
        rest();
    }

    /** All rows of one of each. */
    private void grid(String name, int[]... of) {
        int all = 1;
        for (int[] some : of) {
            all *= some.length;
        }
        for (int n = 0; n < all; n++) {
            int[] row = new int[of.length];
            int left = n;
            for (int i = 0; i < of.length; i++) {
                row[i] = of[i][left % of[i].length];
                left /= of[i].length;
            }
            due.about("state " + state);
            long answer = call(name, row);
            wear(name, answer);
        }
    }

    /** An object is looked at and made anew when it has changed, or when it has been asked enough. */
    private void wear(String name, long answer) {
        boolean changes = "feed cave slate put reader hours ask see tale image undo".contains(name);
        worn += !changes ? 1 : answer < 0 ? 10 : 100;
        if (worn >= 100) {
            rest();
            build();
        }
    }

    private void rest() {
        look();
        call("undo");
        look();
    }

    private void build() {
        due.about("state " + state + " as it is made");
        x = new LowWater();
        model = new Model();
        worn = 0;
        if (state > 0) {
            library();
        }
        if (state == 2) {
            fill();
        }
        if (state == 3) {
            for (int i = 0; i < 166; i++) {
                call("hours", 60);
            }
            call("hours", 37);
        }
        if (state > 1) {
            call("image");
        }
        if (state == 4) {
            call("slate", 7, 3);
            call("put", 0, 8);
            call("ask", -1, 0, 0);
            call("tale", -1, 0, 0);
            call("act", 1, 2, HIGH);
            feed("bb 1 h<3");
            call("cave");
        }
    }

    private void feed(String text) {
        for (int i = 0; i < text.length(); i++) {
            call("feed", text.charAt(i));
        }
    }

    private void library() {
        feed("swell 1 m=2;ebb 1 h=9;wave 3 h<7");
        call("cave");
        int[][] all = {{6, 1}, {3, 2}, {0, 1}};
        for (int[] one : all) {
            call("slate", one);
        }
        int[][] readers = {{0, 1}, {4, 5}, {5, 2}, {6, 3}};
        for (int[] one : readers) {
            call("reader", one);
        }
        feed("e");
        call("hours", 2);
        call("ask", 0, 0, 1);
        call("ask", 1, 1, 2);
        call("see", 1, 1);
        call("tale", 0, 0, 1);
        call("tale", 1, 1, 9);
        call("act", 0, 1, 5);
    }

    private void fill() {
        call("cave");
        for (int i = 0; i < 4; i++) {
            feed("ebb 1 h=3");
            call("cave");
        }
        call("slate", 8, 4);
        call("slate", 1, 3);
        call("slate", 5, 2);
        for (int i = 0; i < 8; i++) {
            call("ask", i % 4, i % 6, 3 * i);
            call("see", 7 * i, 1);
            call("tale", i % 4, i % 6, 7 * i);
        }
        for (int i = 0; i < 100; i++) {
            call("feed", i % 128);
        }
    }

    private void look() {
        due.about("state " + state + " looked at");
        for (int what = 0; what < 8; what++) {
            call("count", what);
        }
        for (int i = 0; i < 6; i++) {
            call("of", i, 0);
            call("of", i, 1);
        }
        for (int i = 0; i < 4; i++) {
            call("at", i, 0);
            call("at", i, 1);
        }
        for (int what = 0; what < 3; what++) {
            call("told", what);
            call("trace", what);
        }
        call("level", 2);
        call("waits");
        call("stood");
        call("looked");
    }

    /** The answer of the class, looked at against the Model's. */
    private long call(String name, int... row) {
        long want = answer(model, name, row);
        long got = answer(x, name, row);
        due.is(name + Arrays.toString(row), got, want);
        return got;
    }

    private static long answer(Object of, String name, int[] row) {
        Method m = methods.get(of.getClass().getName() + "." + name + "/" + row.length);
        Object[] arguments = new Object[row.length];
        for (int i = 0; i < row.length; i++) {
            boolean truth = m.getParameterTypes()[i] == boolean.class;
            arguments[i] = truth ? (Object) (row[i] == 1) : (Object) row[i];
        }
        try {
            return ((Number) m.invoke(of, arguments)).longValue();
        } catch (InvocationTargetException | IllegalAccessException thrown) {
            throw new IllegalStateException(name + Arrays.toString(row) + " threw " + thrown.getCause(), thrown);
        }
    }
}
