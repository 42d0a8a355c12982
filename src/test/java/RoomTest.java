import java.lang.management.ManagementFactory;

/** What a run of 512 calls makes: of each of the dearest calls as many as a run can have. */
public final class RoomTest {
    /** 7.3 million elements are the room of all calls of a run, of which a byte is the least. */
    private static final long ROOM = 7_300_000;
    private static final Due due = new Due();

    private int calls = 0;
    private final LowWater x = new LowWater();

    private RoomTest() {
        calls += 32;
        for (int i = 0; i < 6; i++) {
            x.slate(i + 1, i % 4 + 1);
        }
        for (int kind = 3; kind < 6; kind++) {
            x.reader(kind, 2);
        }
        for (int i = 0; i < 8; i++) {
            x.ask(i % 3, i % 6, i);
            x.tale(i % 3, i % 6, 6);
        }
        for (int i = 0; i < 6; i++) {
            x.see(i, i > 3);
        }
        String text = "swell 1 d=1&(h<2|!h<9);ebb 1 m=1;wave 3 h>3";
        for (int i = 0; i < text.length(); i++) {
            x.feed(text.charAt(i));
        }
        x.cave();
        calls += text.length() + 1;
    }

    public static void main(String[] args) {
        new RoomTest().run("all");
        for (String call : new String[] {"two", "set", "change", "shelve", "safe", "act", "undo", "cave", "all"}) {
            long ahead = made();
            new RoomTest().run(call);
            due.is("bytes of 512 calls, most of them " + call, Math.max(ROOM, made() - ahead), ROOM);
        }
        due.end();
    }

    private static long made() {
        com.sun.management.ThreadMXBean threads = (com.sun.management.ThreadMXBean) ManagementFactory.getThreadMXBean();
        return threads.getCurrentThreadAllocatedBytes();
    }

    private void run(String call) {
        for (; calls + 64 <= 512; calls += 16) {
            for (int i = 0; i < 16; i++) {
                one(call, i);
            }
        }
    }

    private void one(String call, int i) {
        switch (call) {
            case "two":
                x.two(0, 1, 63, 1);
                break;
            case "set":
                x.set(2, 63, 3);
                break;
            case "change":
                x.change();
                break;
            case "shelve":
                x.shelve(i % 6, 1);
                break;
            case "safe":
                x.safe(6, 12, 1);
                break;
            case "act":
                x.act(1, 2, i);
                break;
            case "undo":
                x.image();
                x.undo();
                calls++;
                break;
            case "cave":
                x.cave();
                break;
            default:
                one(new String[] {"two", "set", "change", "shelve", "safe", "act", "cave"}[i % 7], i);
                x.waits();
                x.looked();
                x.stood();
                calls += 3;
        }
    }
}
