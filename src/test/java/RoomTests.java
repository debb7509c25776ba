import java.lang.management.ManagementFactory;

/**
 * All calls of one run live in one room: what an object makes, and what 480 of its dearest calls make, is measured
 * in bytes, of which an element has four or eight.
 */
final class RoomTests {
    /** 7.3 million elements by 512 calls is 14,257 elements a call; an int has four bytes. */
    private static final long MOST_FOR_ONE = 14257L * 4;
    private static final long MOST_FOR_CALLS = 64L * 1024;
    private static int wrong = 0;

    public static void main(String[] args) {
        long warm = 0;
        for (int i = 0; i < 3; i++) {
            warm += madeByNew() + madeByCalls(filled());
        }
        long one = madeByNew();
        long calls = madeByCalls(filled());
        System.out.println("RoomTests: " + one + " bytes for an object, " + calls + " bytes by 480 calls"
                + (warm < 0 ? "?" : ""));
        if (one > MOST_FOR_ONE || calls > MOST_FOR_CALLS) {
            wrong++;
            System.out.println("too much room is taken");
        }
        if (wrong != 0) {
            System.exit(1);
        }
    }

    private static long made() {
        return ((com.sun.management.ThreadMXBean) ManagementFactory.getThreadMXBean())
                .getThreadAllocatedBytes(Thread.currentThread().getId());
    }

    private static long madeByNew() {
        long before = made();
        RopeClock x = new RopeClock();
        long after = made();
        return x.look(0) == 0 ? after - before : 0;
    }

    private static RopeClock filled() {
        RopeClock x = new RopeClock();
        for (int i = 0; i < 18; i++) {
            x.islander(100 + i, 9);
        }
        return x;
    }

    private static long madeByCalls(RopeClock x) {
        long before = made();
        for (int i = 0; i < 30; i++) {
            x.days(60);
            x.goes(60, 0);
            x.lonely();
            x.must(9999, 1);
            x.ferry(6, 3);
            x.glasses(29, 30, 120);
            x.level();
            x.hung(1);
            x.game(60, 1023, 5, 1);
            x.bells(8, 999999, 3);
            x.image(true);
            x.image(false);
            x.feed(0x6C656176, 0x65732031, 0x3B202020, 0x20202020, 0x20202020);
            x.text(0);
            x.undo();
            x.wheels(2);
        }
        return made() - before;
    }
}
