import java.lang.management.ManagementFactory;

/**
 * LANGUAGE.md, rule 12: what a run makes is counted. A new inn is small and no call makes anything,
 * however often it is called.
 */
public final class RoomTest {
    private static final Checks CHECKS = new Checks("RoomTest");
    private static final com.sun.management.ThreadMXBean ROOM =
            (com.sun.management.ThreadMXBean) ManagementFactory.getThreadMXBean();

    /** Some 2,000 numbers and 30 objects. */
    private static final long MOST_BYTES = 10000;

    public static void main(String[] args) {
        allCalls(new BedsBySnore(), 5);
        for (String text : new String[] {"", Inns.SMALLEST, Inns.LARGEST}) {
            long before = used();
            BedsBySnore x = new BedsBySnore();
            long made = used();
            CHECKS.holds("a new inn takes " + (made - before) + " bytes", made - before <= MOST_BYTES);
            for (int k = 0; k < text.length(); k++) {
                x.write(text.charAt(k));
            }
            long written = used();
            int laid = x.lay();
            allCalls(x, 14);
            long called = used();
            CHECKS.due("bytes that the calls took on \"" + text + "\"", called - written, 0);
            CHECKS.holds("laid as due", text.isEmpty() ? laid == BedsBySnore.NO : laid > 0);
        }
        CHECKS.end();
    }

    private static long used() {
        return ROOM.getThreadAllocatedBytes(Thread.currentThread().getId());
    }

    /** 26 calls each time, and 3 more each fifth time. */
    private static int allCalls(BedsBySnore x, int times) {
        int sum = 0;
        for (int k = 0; k < times; k++) {
            sum += x.write('n') + x.fault() + x.wipe() + x.lay() + x.guest(0, 6) + x.bed(0) + x.wall(0);
            sum += x.carry(0, k % 6) + x.stuff(0) + x.hour() + x.law(-1) + x.moves(0) + x.moves(1);
            sum += x.best(k % 8, -1) + x.best(0, 0) + x.wallTo(0) + x.within(9, -1) + x.night(-1);
            sum += x.heard(0, k % 8, k % 2) + x.feigned() + x.hums(0) + x.odds(0, 5, 0) + x.steps(0);
            sum += x.day(k, 30, 1) + x.keep() + x.count(7);
            if (k % 5 == 4) {
                sum += x.undo() + x.back() + x.forget();
            }
        }
        return sum;
    }
}
