import java.lang.management.ManagementFactory;

/** What a run of 512 calls makes: next to nothing behind the constructor, also by the dearest calls. */
public final class RoomTest {
    /** 7.3 million elements are the room of one run; a run has one object or a few. */
    private static final long OF_AN_OBJECT = 200_000, OF_A_RUN = 20_000;
    private static final Due due = new Due();

    public static void main(String[] args) {
        fullRun();
        long ahead = made();
        LowWater x = new LowWater();
        due.is("bytes of an object over " + OF_AN_OBJECT, Math.max(OF_AN_OBJECT, made() - ahead), OF_AN_OBJECT);
        due.is("told(0)", x.told(0), 0);
        long bytes = fullRun();
        due.is("bytes of 512 calls over " + OF_A_RUN, Math.max(OF_A_RUN, bytes), OF_A_RUN);
        due.end();
    }

    private static long made() {
        com.sun.management.ThreadMXBean threads = (com.sun.management.ThreadMXBean) ManagementFactory.getThreadMXBean();
        return threads.getCurrentThreadAllocatedBytes();
    }

    private static long fullRun() {
        LowWater x = new LowWater();
        for (int i = 0; i < 6; i++) {
            x.slate(i + 1, i % 4 + 1);
        }
        for (int kind = 3; kind < 7; kind++) {
            x.reader(kind, 2);
        }
        for (int i = 0; i < 8; i++) {
            x.ask(i % 4, i % 6, i);
            x.see(i, i > 3);
            x.tale(i % 4, i % 6, 6);
        }
        String text = "swell 1 d=1&(h<2|!h<9);ebb 1 m=1;wave 3 h>3;";
        long ahead = made();
        for (int call = 0; call < 460; call++) {
            x.feed(text.charAt(call % text.length()));
            x.cave();
            x.hours(1);
            x.two(0, 3, 63, 0);
            x.two(1, 2, 63, 1);
            x.set(2, 63, 3);
            x.change();
            x.shelve(call % 6, 1);
            x.safe(6, 12, 1);
            x.stood();
            x.looked();
            x.act(1, 2, call);
            x.image();
            x.undo();
        }
        return made() - ahead;
    }
}
