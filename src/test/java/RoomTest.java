import java.lang.management.ManagementFactory;

/** The rows are made with the object: no call makes anything (but led, when it throws). */
public final class RoomTest {
    private static final com.sun.management.ThreadMXBean THREADS =
            (com.sun.management.ThreadMXBean) ManagementFactory.getThreadMXBean();
    private static final long OBJECT_BYTES = 40_000;
    // What looking at the room itself may cost.
    private static final long LOOK_BYTES = 2_000;

    public static void main(String[] args) {
        byte[] text = Town.bytes(Town.MARKET + ";seen ox on 1 hour 9 size 5;seen bear on 2 hour 9 size 5"
                + ";letter ox to cat on 2");
        int[] fed = new int[(text.length + 19) / 20 * 5];
        for (int i = 0; i < fed.length * 4; i++) {
            fed[i / 4] = fed[i / 4] << 8 | (i < text.length ? text[i] & 255 : ' ');
        }
        // The first round loads classes.
        calls(new LentMasks(), fed, text.length);
        long before = allocated();
        LentMasks x = new LentMasks();
        long made = allocated();
        calls(x, fed, text.length);
        long after = allocated();
        Check.same("the town is read", x.size(0), 3);
        System.out.println("bytes of an object: " + (made - before) + ", of its calls: " + (after - made));
        Check.yes("an object is small", made - before <= OBJECT_BYTES);
        Check.yes("calls make nothing", after - made <= LOOK_BYTES);
        Check.end();
    }

    private static long allocated() {
        return THREADS.getThreadAllocatedBytes(Thread.currentThread().getId());
    }

    private static void calls(LentMasks x, int[] fed, int length) {
        for (int i = 0; i < fed.length; i += 5) {
            x.feed(fed[i], fed[i + 1], fed[i + 2], fed[i + 3], fed[i + 4]);
        }
        x.book(length);
        for (int i = 0; i < 8; i++) {
            seeDays(x);
            act(x);
            x.book(0);
        }
    }

    private static void seeDays(LentMasks x) {
        x.worth();
        x.terms();
        x.guild();
        for (int day = 0; day <= 4; day++) {
            x.credit(1, day);
            x.gain(1, day);
            x.real(day);
            x.plan(day, 0);
            x.needed(day, 1);
            x.wearers(day);
            x.odds(day, 2, 0, true);
            x.may(day, 0);
            x.untrue(day);
        }
        x.led(1, 0);
        x.lovers(0, 1);
        x.lover(0, 1, 0, true);
    }

    private static void act(LentMasks x) {
        x.lend(0, 1, 4, 4);
        x.pass(0, 2, 1);
        x.give(1, 3);
        x.breaking(0, 1, true);
        x.image();
        x.undo();
        x.redo();
        x.back(0);
        x.lending(0, 0);
        x.mask(0, 0);
        x.person(0, 4);
    }
}
