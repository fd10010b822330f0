/** Promises 1 to 7 and 32: a new yard, the joints, the density, the places. */
public final class DrawingTest {
    private static final Class<IndexOutOfBoundsException> NO_SUCH = IndexOutOfBoundsException.class;
    private static final Class<IllegalArgumentException> WRONG = IllegalArgumentException.class;
    private static final Class<UnsupportedOperationException> NOT_NOW = UnsupportedOperationException.class;
    private static final Class<IllegalStateException> FULL = IllegalStateException.class;

    public static void main(String[] args) {
        newYard();
        drawJoint();
        drawJointTurns();
        drawJointOrder();
        moveJoint();
        moveJointTurns();
        moveJointBesideStones();
        setDensity();
        figuresOfPlaces();
        Due.end();
    }

    private static void newYard() {
        VoussoirYard yard = new VoussoirYard();
        Due.is(0, "a new yard has no places", yard::places);
        Due.is(0L, "a new yard has spent nothing", yard::spent);
        Due.is(0, "a new yard has no waste", yard::waste);
        Due.is(3, "a new yard has the grip 3", yard::grip);
        Due.is(false, "in a new yard nothing stands", yard::stands);
        Due.is(true, "a new yard is sound", yard::isSound);
        Due.fails(NO_SUCH, "a new yard has no joints", () -> yard.moveJoint(0, 1, 1, 2, 2));
        Due.fails(NO_SUCH, "a new yard has no blocks", () -> yard.blocks(0));
        Due.fails(NO_SUCH, "a new yard has no stones", () -> yard.readyOn(0));
        Due.is(0, "a new yard has no masons", () -> yard.addMason(1, 1));
        Due.is(1, "a new yard is at the day 0", () -> yard.pass(1));
        Due.is(1, "a new yard has the density 1", () -> yard.setDensity(2));
        VoussoirYard other = new VoussoirYard();
        Due.is(1, "yards know nothing of each other", () -> other.setDensity(3));
    }

    private static void drawJoint() {
        VoussoirYard yard = new VoussoirYard();
        int[][] outside = {{-1, 0, 5, 5}, {21, 0, 5, 5}, {0, -1, 5, 5}, {0, 21, 5, 5}, {0, 0, -1, 5}, {0, 0, 21, 5},
            {0, 0, 5, -1}, {0, 0, 5, 21}, {Integer.MIN_VALUE, 0, 5, 5}, {0, 0, 5, Integer.MAX_VALUE}};
        for (int[] at : outside) {
            Due.fails(WRONG, "drawJoint out of range", () -> yard.drawJoint(at[0], at[1], at[2], at[3]));
        }
        Due.fails(WRONG, "drawJoint with one point", () -> yard.drawJoint(7, 7, 7, 7));
        Due.is(0, "drawJoint at the edges", () -> yard.drawJoint(0, 0, 0, 20));
        Due.is(0, "one joint makes no place", yard::places);
        Due.is(1, "drawJoint at the other edges", () -> yard.drawJoint(20, 0, 20, 20));
        Due.is(1, "two joints make a place", yard::places);
        Due.is(800, "the greatest place", () -> yard.area(0));
        Due.is(3, "wrong joints are no versions", () -> yard.moveJoint(0, 0, 0, 0, 20));
    }

    private static void drawJointTurns() {
        VoussoirYard yard = new VoussoirYard();
        yard.drawJoint(10, 10, 10, 14);
        Due.fails(WRONG, "straight on at the left inner point", () -> yard.drawJoint(10, 6, 14, 14));
        Due.fails(WRONG, "to the right at the left inner point", () -> yard.drawJoint(9, 6, 14, 14));
        Due.fails(WRONG, "straight on at the left outer point", () -> yard.drawJoint(14, 10, 10, 18));
        Due.fails(WRONG, "to the right at the left outer point", () -> yard.drawJoint(14, 10, 9, 18));
        Due.fails(WRONG, "straight on at the right inner point", () -> yard.drawJoint(12, 12, 10 + 4, 14));
        Due.fails(WRONG, "straight on at the right outer point", () -> yard.drawJoint(14, 10, 12, 12));
        Due.fails(WRONG, "a hollow corner inside", () -> yard.drawJoint(11, 12, 14, 14));
        Due.fails(WRONG, "crossed joints", () -> yard.drawJoint(14, 14, 14, 10));
        Due.fails(WRONG, "to the left of the last joint", () -> yard.drawJoint(6, 10, 6, 14));
        Due.fails(WRONG, "on the last joint", () -> yard.drawJoint(10, 10, 10, 14));
        Due.fails(WRONG, "sharing the inner point", () -> yard.drawJoint(10, 10, 14, 14));
        Due.fails(WRONG, "sharing the outer point", () -> yard.drawJoint(14, 10, 10, 14));
        Due.is(0, "none of these was drawn", yard::places);
        Due.is(1, "four turns to the left", () -> yard.drawJoint(11, 11, 11, 14));
        Due.fails(WRONG, "only the last joint counts", () -> yard.drawJoint(11, 15, 10, 16));
        Due.is(2, "the next four turns", () -> yard.drawJoint(20, 0, 20, 20));
    }

    private static void drawJointOrder() {
        VoussoirYard yard = Arches.beam(7, 2);
        Due.is(7, "8 joints are 7 places", yard::places);
        Due.fails(FULL, "a ninth joint", () -> yard.drawJoint(16, 0, 16, 2));
        Due.fails(WRONG, "a ninth joint that turns wrongly", () -> yard.drawJoint(13, 0, 13, 2));
        Due.fails(WRONG, "a ninth joint out of range", () -> yard.drawJoint(16, 0, 16, 21));
        fillFirst(yard);
        Due.fails(NOT_NOW, "a ninth joint with a stone set", () -> yard.drawJoint(16, 0, 16, 2));
        Due.fails(WRONG, "a wrong ninth joint with a stone set", () -> yard.drawJoint(16, 0, 16, 0));
        VoussoirYard shorter = Arches.beam(2, 4);
        fillFirst(shorter);
        Due.fails(NOT_NOW, "a joint with a stone set", () -> shorter.drawJoint(12, 0, 12, 4));
        Due.is(2, "it was not drawn", shorter::places);
    }

    /** Sets a stone into the place 0, three days later. */
    private static void fillFirst(VoussoirYard yard) {
        yard.addBlocks(20, 20, 9, 0, true);
        yard.addMason(99, 0);
        yard.cut(0, 0, 0);
        yard.pass(3);
        yard.setCentre(99999);
        Due.is(1, "the first place is filled", () -> yard.set(0, 0));
    }

    private static void moveJoint() {
        VoussoirYard yard = Arches.beam(2, 4);
        Due.is(4, "each joint drawn was a version", () -> yard.moveJoint(1, 5, 0, 5, 4));
        Due.is(40, "the place to the left is wider", () -> yard.area(0));
        Due.is(24, "the place to the right is narrower", () -> yard.area(1));
        Due.is(5, "a move to where it is", () -> yard.moveJoint(1, 5, 0, 5, 4));
        Due.fails(NO_SUCH, "the joint -1", () -> yard.moveJoint(-1, 1, 0, 1, 4));
        Due.fails(NO_SUCH, "the joint behind the last", () -> yard.moveJoint(3, 12, 0, 12, 4));
        Due.fails(NO_SUCH, "no joint, and out of range", () -> yard.moveJoint(3, 12, 0, 12, 21));
        Due.fails(NO_SUCH, "the greatest number", () -> yard.moveJoint(Integer.MAX_VALUE, 1, 0, 1, 4));
        Due.fails(NO_SUCH, "the least number", () -> yard.moveJoint(Integer.MIN_VALUE, 1, 0, 1, 4));
        for (int i = 0; i < 4; i++) {
            int wrong = i;
            Due.fails(WRONG, "-1 as a number", () -> yard.moveJoint(0, wrong == 0 ? -1 : 0, wrong == 1 ? -1 : 0,
                wrong == 2 ? -1 : 0, wrong == 3 ? -1 : 4));
            Due.fails(WRONG, "21 as a number", () -> yard.moveJoint(0, wrong == 0 ? 21 : 0, wrong == 1 ? 21 : 0,
                wrong == 2 ? 21 : 0, wrong == 3 ? 21 : 4));
        }
        Due.fails(WRONG, "one point", () -> yard.moveJoint(0, 0, 0, 0, 0));
        Due.is(6, "what failed is no version", () -> yard.moveJoint(0, 1, 0, 0, 4));
        VoussoirYard single = new VoussoirYard();
        single.drawJoint(5, 5, 6, 6);
        Due.fails(WRONG, "one point of a single joint", () -> single.moveJoint(0, 3, 3, 3, 3));
        Due.is(2, "a single joint goes anywhere", () -> single.moveJoint(0, 6, 6, 5, 5));
    }

    private static void moveJointTurns() {
        VoussoirYard yard = Arches.beam(2, 4);
        Due.fails(WRONG, "onto the joint to the left", () -> yard.moveJoint(1, 0, 0, 0, 4));
        Due.fails(WRONG, "over the joint to the left", () -> yard.moveJoint(2, 3, 0, 3, 4));
        Due.fails(WRONG, "onto the joint to the right", () -> yard.moveJoint(1, 8, 0, 8, 4));
        Due.fails(WRONG, "over the joint to the right", () -> yard.moveJoint(0, 5, 0, 5, 4));
        Due.fails(WRONG, "wrong for the place to the left alone", () -> yard.moveJoint(1, 0, 0, 4, 4));
        Due.fails(WRONG, "wrong for the place to the right alone", () -> yard.moveJoint(1, 8, 0, 4, 4));
        Due.fails(WRONG, "turned round", () -> yard.moveJoint(1, 4, 4, 4, 0));
        Due.is(32, "nothing was moved", () -> yard.area(0));
        Due.is(32, "nor the other", () -> yard.area(1));
        Due.is(4, "the last joint may go far to the right", () -> yard.moveJoint(2, 20, 0, 20, 20));
    }

    private static void moveJointBesideStones() {
        VoussoirYard yard = Arches.beam(4, 4);
        fillFirst(yard);
        Due.fails(NOT_NOW, "to the left of the filled place", () -> yard.moveJoint(0, 0, 0, 0, 4));
        Due.fails(NOT_NOW, "to the right of the filled place", () -> yard.moveJoint(1, 4, 0, 4, 4));
        Due.fails(WRONG, "wrong, and beside the filled place", () -> yard.moveJoint(1, 0, 0, 0, 4));
        Due.is(6, "away from the filled place", () -> yard.moveJoint(2, 8, 0, 8, 5));
        Due.is(7, "the last joint", () -> yard.moveJoint(4, 16, 0, 16, 5));
        VoussoirYard arch = Arches.standing();
        Due.fails(NOT_NOW, "the last joint of an arch that stands", () -> arch.moveJoint(4, 14, 0, 16, 0));
        arch.load(1, 20000);
        Due.is(6, "it fell, its places are empty", () -> arch.moveJoint(4, 14, 0, 16, 0));
    }

    private static void setDensity() {
        VoussoirYard yard = Arches.beam(2, 4);
        Due.fails(WRONG, "the density 0", () -> yard.setDensity(0));
        Due.fails(WRONG, "the density 4", () -> yard.setDensity(4));
        Due.fails(WRONG, "the least density", () -> yard.setDensity(Integer.MIN_VALUE));
        Due.is(1, "the density before", () -> yard.setDensity(3));
        Due.is(288, "three times the weight", () -> yard.weight(0));
        Due.is(3, "the density before again", () -> yard.setDensity(2));
        fillFirst(yard);
        Due.fails(NOT_NOW, "with a stone set", () -> yard.setDensity(1));
        Due.fails(WRONG, "wrong, with a stone set", () -> yard.setDensity(4));
        Due.is(192, "it was not changed", () -> yard.weight(1));
        VoussoirYard arch = Arches.standing();
        Due.fails(NOT_NOW, "of an arch that stands", () -> arch.setDensity(1));
        arch.load(1, 20000);
        Due.is(1, "of an arch that fell", () -> arch.setDensity(2));
    }

    private static void figuresOfPlaces() {
        VoussoirYard yard = Arches.round();
        int[] areas = {32, 41, 48, 41, 32};
        for (int place = 0; place < 5; place++) {
            int at = place;
            Due.is(areas[at], "area " + at, () -> yard.area(at));
            Due.is(3 * areas[at], "weight " + at, () -> yard.weight(at));
        }
        int[] none = {-1, 5, 6, 8, Integer.MAX_VALUE, Integer.MIN_VALUE};
        for (int place : none) {
            Due.fails(NO_SUCH, "area of no place", () -> yard.area(place));
            Due.fails(NO_SUCH, "weight of no place", () -> yard.weight(place));
        }
        Due.is(38.8, "meanArea", yard::meanArea);
        VoussoirYard third = Arches.drawn(new int[][] {{0, 0, 0, 1}, {1, 0, 1, 1}, {2, 0, 2, 1}, {4, 0, 3, 1}});
        Due.is(7.0 / 3.0, "meanArea in thirds", third::meanArea);
        VoussoirYard fresh = new VoussoirYard();
        Due.fails(ArithmeticException.class, "meanArea without joints", fresh::meanArea);
        fresh.drawJoint(0, 0, 0, 4);
        Due.fails(ArithmeticException.class, "meanArea with one joint", fresh::meanArea);
        Due.fails(NO_SUCH, "area with one joint", () -> fresh.area(0));
        fresh.drawJoint(4, 0, 4, 4);
        Due.is(32.0, "meanArea of one place", fresh::meanArea);
    }
}
