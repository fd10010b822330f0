import com.sun.management.ThreadMXBean;
import java.lang.management.ManagementFactory;

/** Rule 12 of LANGUAGE.md: what the calls make stays small, and most make nothing at all. */
public final class RoomTest {
    private static final ThreadMXBean THREADS = (ThreadMXBean) ManagementFactory.getThreadMXBean();
    private static final int TIMES = 2000;
    /** What measuring itself makes, shared out among the calls. */
    private static final long NOTHING = 16;
    private static long sum = 0;

    private RoomTest() {
    }

    public static void main(String[] args) {
        VoussoirYard standing = Arches.standing();
        demand("new VoussoirYard()", 4500, () -> sum += new VoussoirYard().places());
        demand("thrust", NOTHING, () -> sum += standing.thrust(8));
        demand("bears", NOTHING, () -> sum += standing.bears(1, 8));
        demand("isSafe", NOTHING, () -> sum += standing.isSafe(0) ? 1 : 0);
        demand("load", NOTHING, () -> sum += standing.load(1, 1) ? 1 : 0);
        demand("isSound", NOTHING, () -> sum += standing.isSound() ? 1 : 0);
        demand("figures", NOTHING, () -> sum += standing.spent() + standing.waste()
            + (long) standing.usedShare() + (long) standing.meanArea());
        demand("stones", NOTHING, () -> sum += standing.stateOf(1) + standing.readyOn(1) + standing.mark(1)
            + standing.markAt(1, 1) + standing.stoneIn(1) + standing.grip() + (standing.fits(1, 1) ? 1 : 0));
        demand("bestBlock", NOTHING, () -> sum += standing.bestBlock(1) + standing.blocks(0));
        VoussoirYard drawn = Arches.beam(7, 2);
        demand("moveJoint", NOTHING, () -> sum += drawn.moveJoint(3, 6, 0, 6, 2));
        demand("the drawing", NOTHING, () -> sum += drawn.setDensity(2) + drawn.area(3) + drawn.weight(3));
        demandOfWholeLives();
        Due.report("something was answered", "" + (sum != 0), "true");
        Due.end();
    }

    /** A yard with all its 40 stones: 8 objects for each stone, of some 40 bytes each. */
    private static void demandOfWholeLives() {
        demand("a yard with 40 stones", 25000, () -> {
            VoussoirYard yard = Arches.quarriedBeam(2, 99);
            for (int stone = 0; stone < 40; stone++) {
                sum += yard.cut(stone % 2, 0, 0);
            }
        });
    }

    private static void demand(String what, long mostBytes, Runnable call) {
        call.run();
        long before = THREADS.getCurrentThreadAllocatedBytes();
        for (int time = 0; time < TIMES; time++) {
            call.run();
        }
        long bytes = (THREADS.getCurrentThreadAllocatedBytes() - before) / TIMES;
        Due.report(what + " makes " + bytes + " bytes, at most " + mostBytes, "" + (bytes <= mostBytes), "true");
    }
}
