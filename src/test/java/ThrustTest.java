import java.util.NoSuchElementException;

/** Promises 8 to 11: isSafe, thrust, bears and grip. */
public final class ThrustTest {
    private static final Class<IndexOutOfBoundsException> NO_SUCH = IndexOutOfBoundsException.class;
    private static final Class<IllegalArgumentException> WRONG = IllegalArgumentException.class;
    private static final Class<NoSuchElementException> NOTHING = NoSuchElementException.class;

    public static void main(String[] args) {
        beam();
        flatBeam();
        piles();
        leaningPile();
        roundArch();
        wrongCalls();
        loads();
        bears();
        grip();
        gripInFrost();
        gripOfRefilledArch();
        Due.end();
    }

    /** Two squares of the weight 96 between upright joints: at the ends the force goes up by 96 in all. */
    private static void beam() {
        VoussoirYard yard = Arches.beam(2, 4);
        Due.is(false, "without grip nothing bears the weights", () -> yard.isSafe(0));
        Due.fails(NOTHING, "thrust without grip", () -> yard.thrust(0));
        long[] least = {0, 960, 480, 320, 240, 192, 160, 138, 120, 107, 96};
        for (int grip = 1; grip <= 10; grip++) {
            int with = grip;
            Due.is(true, "the beam at the grip " + grip, () -> yard.isSafe(with));
            Due.is(least[with], "thrust of the beam at the grip " + grip, () -> yard.thrust(with));
        }
        yard.setDensity(3);
        Due.is(288L, "three times as dense", () -> yard.thrust(10));
    }

    /** Where the height is small, it and not the grip is what asks for the thrust: weights 12, spans 2 + 2, rise 1. */
    private static void flatBeam() {
        VoussoirYard yard = Arches.drawn(new int[][] {{0, 0, 0, 1}, {2, 0, 2, 1}, {4, 0, 4, 1}});
        Due.is(12L, "at the grip 10 the line and the grip ask for the same", () -> yard.thrust(10));
        VoussoirYard wide = Arches.drawn(new int[][] {{0, 0, 0, 1}, {8, 0, 8, 1}, {16, 0, 16, 1}});
        // half of the weight 96 turns about the middle: 48 * 8 - 48 * 4 = 192, over the rise 1
        Due.is(192L, "the line asks for more than the grip 10", () -> wide.thrust(10));
        Due.is(480L, "the grip 1 asks for more than the line", () -> wide.thrust(1));
        Due.is(240L, "the grip 2 too", () -> wide.thrust(2));
        Due.is(192L, "the grip 3 no longer", () -> wide.thrust(3));
    }

    /** Piles stand without any thrust, and without grip; at their upper ends the force may be 0. */
    private static void piles() {
        VoussoirYard rising = Arches.drawn(new int[][] {{5, 0, 0, 0}, {5, 5, 0, 5}, {5, 10, 0, 10}});
        Due.is(true, "a pile to the left", () -> rising.isSafe(0));
        Due.is(0L, "thrust of a pile to the left", () -> rising.thrust(0));
        Due.is(20000, "a pile bears a load at its edge", () -> rising.bears(0, 0));
        VoussoirYard falling = Arches.drawn(new int[][] {{0, 10, 5, 10}, {0, 5, 5, 5}, {0, 0, 5, 0}});
        Due.is(true, "a pile to the right", () -> falling.isSafe(0));
        Due.is(0L, "thrust of a pile to the right", () -> falling.thrust(0));
        Due.is(20000, "it bears a load at its edge too", () -> falling.bears(1, 0));
    }

    /** Lying joints: without grip there is no H; the first centre of gravity is at 6, the foot ends at 3. */
    private static void leaningPile() {
        VoussoirYard yard = Arches.drawn(new int[][] {{3, 0, 0, 0}, {12, 3, 9, 3}, {12, 6, 9, 6}});
        Due.is(false, "a pile that topples", () -> yard.isSafe(0));
        Due.fails(NOTHING, "thrust of a pile that topples", () -> yard.thrust(0));
        Due.fails(NOTHING, "bears of a pile that topples", () -> yard.bears(0, 0));
        Due.fails(NOTHING, "bears of its other place", () -> yard.bears(1, 0));
        // a joint that lies the other way round would be pulled
        VoussoirYard hanging = Arches.drawn(new int[][] {{0, 10, 5, 10}, {0, 5, 5, 5}, {1, 1, 6, 1}});
        Due.is(true, "what leans on joints below", () -> hanging.isSafe(0));
    }

    private static void roundArch() {
        VoussoirYard yard = Arches.round();
        Due.is(false, "the grip 0", () -> yard.isSafe(0));
        Due.is(true, "the grip 3", () -> yard.isSafe(3));
        Due.is(24L, "the grip 10", () -> yard.thrust(10));
        Due.is(54L, "the grip 5", () -> yard.thrust(5));
    }

    private static void wrongCalls() {
        VoussoirYard yard = Arches.beam(1, 4);
        int[] wrong = {-1, 11, Integer.MAX_VALUE, Integer.MIN_VALUE};
        for (int grip : wrong) {
            Due.fails(WRONG, "isSafe with a wrong grip", () -> yard.isSafe(grip));
            Due.fails(WRONG, "thrust with a wrong grip", () -> yard.thrust(grip));
            Due.fails(WRONG, "bears with a wrong grip", () -> yard.bears(0, grip));
            Due.fails(NO_SUCH, "bears of no place with a wrong grip", () -> yard.bears(1, grip));
            Due.fails(NO_SUCH, "bears of no place", () -> yard.bears(grip, 5));
        }
        Due.fails(NOTHING, "isSafe of one place", () -> yard.isSafe(10));
        Due.fails(NOTHING, "thrust of one place", () -> yard.thrust(0));
        Due.fails(NOTHING, "bears of one place", () -> yard.bears(0, 10));
        VoussoirYard fresh = new VoussoirYard();
        Due.fails(NOTHING, "isSafe without joints", () -> fresh.isSafe(3));
        Due.fails(NOTHING, "thrust without joints", () -> fresh.thrust(3));
        Due.fails(WRONG, "a wrong grip without joints", () -> fresh.isSafe(11));
        Due.fails(NO_SUCH, "bears without joints", () -> fresh.bears(0, 3));
    }

    private static void loads() {
        VoussoirYard yard = Arches.standing();
        int[][] joints = {{2, 0, 0, 0}, {3, 6, 1, 8}, {8, 10, 8, 15}, {13, 6, 15, 8}, {14, 0, 16, 0}};
        Due.is(true, "a load that it bears", () -> yard.load(1, 50));
        Due.is(true, "another", () -> yard.load(2, 70));
        int[] loads = {0, 50, 70, 0};
        for (int grip = 0; grip <= 10; grip++) {
            int with = grip;
            CornerOracle oracle = new CornerOracle(joints, 1, loads, grip);
            Due.is(oracle.isSafe(), "isSafe with loads, grip " + grip, () -> yard.isSafe(with));
            if (oracle.isSafe()) {
                Due.is(oracle.leastRoundedUp(), "thrust with loads, grip " + grip, () -> yard.thrust(with));
            }
        }
        int borne = yard.bears(1, 8);
        Due.is(true, "bears leaves the load as it is", () -> yard.load(0, 0));
        int[] most = {0, borne, 70, 0};
        int[] tooMany = {0, borne + 1, 70, 0};
        Due.is(true, "bears counts the other load", () -> new CornerOracle(joints, 1, most, 8).isSafe());
        Due.is(false, "bears counts it in place of its own", () -> new CornerOracle(joints, 1, tooMany, 8).isSafe());
        Due.is(true, "the greatest load", () -> yard.load(1, borne));
        Due.is(borne, "bears with the greatest load on", () -> yard.bears(1, 8));
        Due.is(false, "one more", () -> yard.load(1, borne + 1));
    }

    private static void bears() {
        VoussoirYard yard = Arches.round();
        Due.is(2111, "the middle of the round arch", () -> yard.bears(2, 10));
        VoussoirYard other = Arches.drawn(
            new int[][] {{5, 3, 2, 2}, {6, 6, 4, 9}, {10, 8, 10, 13}, {14, 6, 16, 9}, {15, 3, 18, 2}});
        Due.is(667, "the place 1 of another", () -> other.bears(1, 10));
        Due.is(557, "the place 2 of it", () -> other.bears(2, 10));
        Due.is(20000, "a beam bears the most there is", () -> Arches.beam(3, 4).bears(1, 10));
        Due.fails(NO_SUCH, "the place behind the last", () -> other.bears(4, 10));
        Due.fails(NO_SUCH, "the place -1", () -> other.bears(-1, 10));
    }

    private static void grip() {
        VoussoirYard yard = Arches.filled();
        Due.is(3, "on the day of setting", yard::grip);
        int[] after = {3, 3, 3, 3, 4, 4, 4, 4, 4, 5, 5, 5, 5, 5, 6, 6, 6, 6, 6, 7, 7, 7, 7, 7, 8, 8, 8, 8, 8, 8, 8};
        for (int day = 0; day < after.length; day++) {
            yard.pass(1);
            Due.is(after[day], "the day of setting counts, and " + day + " more", yard::grip);
        }
        yard.strike();
        Due.is(8, "when the centre is struck", yard::grip);
        yard.pass(99);
        Due.is(8, "at most 8", yard::grip);
        yard.load(1, 20000);
        Due.is(3, "when it fell", yard::grip);
    }

    private static void gripInFrost() {
        VoussoirYard yard = Arches.pointed();
        yard.addBlocks(20, 20, 50, 9, false);
        yard.addMason(99, 1);
        for (int place = 0; place < 4; place++) {
            yard.cut(place, 0, 0);
        }
        yard.pass(86);
        yard.setCentre(99999);
        yard.set(0, 0);
        yard.set(3, 3);
        yard.set(1, 1);
        yard.pass(30);
        Due.is(3, "not all stones are set", yard::grip);
        yard.pass(90);
        yard.set(2, 2);
        Due.is(3, "days ahead of the last stone do not count", yard::grip);
        // the day 206 is the day 86 of its year: 4 days to the frost
        yard.pass(4);
        Due.is(3, "4 days", yard::grip);
        yard.pass(30);
        Due.is(3, "the frost does not count", yard::grip);
        yard.pass(1);
        Due.is(4, "the first day behind the frost does", yard::grip);
        yard.pass(5);
        Due.is(5, "and 5 more", yard::grip);
    }

    private static void gripOfRefilledArch() {
        VoussoirYard yard = Arches.standing();
        for (int place = 0; place < 4; place++) {
            yard.cut(place, 0, place);
        }
        yard.load(2, 20000);
        yard.pass(2);
        yard.setCentre(99999);
        yard.set(4, 0);
        yard.set(5, 1);
        yard.set(6, 2);
        yard.pass(5);
        Due.is(3, "the last place is empty", yard::grip);
        yard.set(7, 3);
        Due.is(3, "filled again today", yard::grip);
        yard.pass(10);
        Due.is(5, "ten days later", yard::grip);
        VoussoirYard single = Arches.beam(1, 4);
        single.addBlocks(4, 4, 1, 1, true);
        single.addMason(99, 1);
        single.cut(0, 0, 0);
        single.pass(1);
        single.setCentre(96);
        single.set(0, 0);
        single.pass(5);
        Due.is(4, "one place is all places too", single::grip);
    }
}
