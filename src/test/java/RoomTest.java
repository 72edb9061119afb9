import java.lang.management.ManagementFactory;

/**
 * What the dearest runs of 512 calls make. One room is for 600,000 objects and arrays with 7.3 million fields and
 * elements: at 4 bytes for an element and 16 for an object's head that is far above the 4 million bytes asked here.
 */
public final class RoomTest {
    private static final long MOST_BYTES = 4_000_000;
    private static final int CALLS = 512;

    public static void main(String[] args) {
        measure("as many followers as can be", RoomTest::followers);
        measure("twelve chains, told anew", RoomTest::toldAnew);
        measure("gos and releases", RoomTest::releases);
        measure("lamps that die", RoomTest::deaths);
        measure("calls beyond the last", RoomTest::beyond);
        Check.end();
    }

    private static void measure(String name, Runnable run) {
        var threads = (com.sun.management.ThreadMXBean) ManagementFactory.getThreadMXBean();
        long before = threads.getCurrentThreadAllocatedBytes();
        run.run();
        long made = threads.getCurrentThreadAllocatedBytes() - before;
        System.out.println(name + ": " + made + " bytes");
        Check.same(name + " stays in the room", true, made < MOST_BYTES);
    }

    private static GelBook chains() {
        GelBook x = new GelBook();
        for (int i = 0; i < 12; i++) {
            x.lamp(i % 4, i % 10, i % 2, 400, i % 3);
            x.cue(i % 2, i, 20);
        }
        for (int i = 0; i < 12; i++) {
            x.level(i, i, 50 + i);
            x.follow(i, (i + 1) % 12, 1);
        }
        return x;
    }

    private static void followers() {
        GelBook x = chains();
        int left = CALLS - 48;
        for (int i = 0; i < left / 2; i++) {
            x.go(i % 12);
        }
        for (int i = 0; i < left / 2; i++) {
            x.pass(20);
        }
        Check.same("none barred", 0, x.barred());
        Check.same("as at the end", x.levelOf(3), x.levelAnew(3));
    }

    private static void toldAnew() {
        GelBook x = chains();
        for (int i = 0; i < 12; i++) {
            x.go(i);
        }
        for (int i = 0; i < 226; i++) {
            x.pass(20);
            Check.same("told anew", x.levelOf(i % 12), x.levelAnew(i % 12));
        }
    }

    private static void releases() {
        GelBook x = chains();
        for (int i = 0; i < 232; i++) {
            x.go(i % 12);
            x.release(i % 12);
        }
        Check.same("all at one tick", x.levelOf(11), x.levelAnew(11));
    }

    private static void deaths() {
        GelBook x = chains();
        for (int i = 0; i < CALLS - 48; i++) {
            x.die(i * 7 % 12);
        }
    }

    /** What these answer is free, but they must not fail by themselves. */
    private static void beyond() {
        GelBook x = chains();
        for (int i = 0; i < 3 * CALLS; i++) {
            int cue = i % 12;
            String answer = Check.answer(() -> x.go(cue));
            Check.same("an answer, or none by the machine", false, answer.contains("ArrayIndex"));
            if (i % 64 == 0) {
                x.pass(20);
            }
        }
    }
}
