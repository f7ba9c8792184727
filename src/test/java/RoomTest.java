import com.sun.management.ThreadMXBean;
import java.lang.management.ManagementFactory;

/** All calls of a run live in one room: a call makes no objects at all, an object few. */
public final class RoomTest {
    private static final Checks CHECKS = new Checks("RoomTest");
    private static final int OBJECTS = 200;
    /** More than one object may take: 200 bytes of text, 13 states, two parliaments. */
    private static final long BYTES_AN_OBJECT = 2000;
    /** What the machine itself may make beside a run, such as the text of a constant. */
    private static final long BYTES_ASIDE = 20000;

    private static final ThreadMXBean THREADS = (ThreadMXBean) ManagementFactory.getThreadMXBean();
    private static final String TEXT = "member 9 1;member 8 0;member 7 1;member 6 0;member 5 1;member 9 0;"
            + "seconds 0 1;seconds 2 3;cold 2;fur 3;coughs 3;";

    /** Keeps the answers from being thought needless. */
    private static long sum = 0;

    public static void main(String[] args) {
        callsMakeNothing(Checks.told(TEXT));
        LastCoat x = Checks.told(TEXT);
        long before = madeSoFar();
        callsMakeNothing(x);
        long calls = madeSoFar() - before;
        CHECKS.due("bytes made by calls: " + calls + ", too many", calls > BYTES_ASIDE ? 1 : 0, 0);

        before = madeSoFar();
        for (int i = 0; i < OBJECTS; i++) {
            sum += new LastCoat().vote();
        }
        long objects = madeSoFar() - before;
        CHECKS.due("bytes made by " + OBJECTS + " objects: " + objects + ", too many",
            objects > OBJECTS * BYTES_AN_OBJECT + BYTES_ASIDE ? 1 : 0, 0);
        CHECKS.due("a new object's trace()", new LastCoat().trace(), 0);
        CHECKS.end();
    }

    private static long madeSoFar() {
        return THREADS.getThreadAllocatedBytes(Thread.currentThread().getId());
    }

    private static void callsMakeNothing(LastCoat x) {
        for (int round = 0; round < 16; round++) {
            sum += x.carry(-1) + x.carry(3) + x.save(5, -1) + x.save(5, 4) + x.game(5, 0) + x.game(5, 1);
            for (int m = 0; m < 6; m++) {
                sum += x.worth(m) + x.rate(m, m) + x.member(m, 3) + x.told(m) + x.count(m) + x.saw(m, 0);
            }
            sum += x.fits(5) + x.speaks(round % 6, 3) + x.pause(1) + x.lining() + x.undo() + x.lot(round)
                + x.keep(0) + x.back(0) + x.forget() + x.vote() + x.trace();
            sum += x.type(0x6D656D6265722035L, 8) + x.type(0x20313BL, 3) + (round % 5 == 4 ? x.house() : x.clear());
        }
    }
}
