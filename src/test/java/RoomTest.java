import java.lang.management.ManagementFactory;

/** All calls of a run live in one room, so a call makes nothing but the text that it answers. */
public final class RoomTest {
    private static final int CALLS = 512;
    private static final long OBJECT = 400_000;
    private static final long TEXTS = 2_000_000;
    private static final long NOTHING = 20_000;

    private interface Call {
        void made();
    }

    private static int wrong;

    private static void room(String call, int times, long most, Call made) {
        com.sun.management.ThreadMXBean threads =
            (com.sun.management.ThreadMXBean) ManagementFactory.getThreadMXBean();
        made.made();
        long before = threads.getCurrentThreadAllocatedBytes();
        for (int n = 0; n < times; n++) {
            made.made();
        }
        long used = threads.getCurrentThreadAllocatedBytes() - before;
        if (used > most) {
            wrong++;
            System.out.println(call + ", " + times + " times, takes " + used + " bytes, more than " + most);
        }
    }

    public static void main(String[] args) {
        Skylinesheet s = new Skylinesheet();
        for (int n = 0; n < 24; n++) {
            s.build(8 * n, 8 * n + 4, 50 + n);
            s.lay(n % 3, n, n + 5, 0, 30);
        }
        room("new Skylinesheet()", 1, OBJECT, Skylinesheet::new);
        room("skyline()", CALLS, TEXTS, s::skyline);
        room("row()", CALLS, TEXTS, () -> s.row(0, 5));
        room("digest()", CALLS, NOTHING, s::digest);
        room("both()", CALLS, NOTHING, () -> s.both(0, 1, 3, 5));
        room("would()", CALLS, NOTHING, () -> s.would(0, 200, 70, true));
        room("without()", CALLS, NOTHING, () -> s.without(false, 3));
        room("shift() and undo()", CALLS, NOTHING, () -> {
            s.shift(3, 1, 0);
            s.undo();
        });
        System.out.println(wrong == 0 ? "no call takes more room than it may" : wrong + " calls take more");
        if (wrong != 0) {
            System.exit(1);
        }
    }
}
