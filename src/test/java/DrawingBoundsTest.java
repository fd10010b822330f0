/** The boundary cases of promises 1 to 7 and 32, and of the terms Drawing and Weights: a test for each sentence. */
public final class DrawingBoundsTest {
    private static final Class<IndexOutOfBoundsException> NO_SUCH = IndexOutOfBoundsException.class;
    private static final Class<IllegalArgumentException> WRONG = IllegalArgumentException.class;
    private static final Class<UnsupportedOperationException> NOT_NOW = UnsupportedOperationException.class;
    private static final Class<IllegalStateException> FULL = IllegalStateException.class;
    private static final int[] OUTSIDE = {-1, 21, Integer.MIN_VALUE, Integer.MAX_VALUE};

    /**
     * Right joints for the left joint (10, 10) to (10, 14), by the corner at which they turn: straight on there
     * and at no other corner, to the right there, and just to the left everywhere.
     */
    private static final int[][][] TURNS = {
        {{10, 6, 14, 14}, {9, 6, 14, 14}, {11, 6, 14, 14}},
        {{12, 12, 14, 14}, {12, 13, 14, 14}, {13, 12, 14, 14}},
        {{14, 10, 12, 12}, {14, 10, 12, 11}, {14, 10, 13, 12}},
        {{14, 10, 10, 18}, {14, 10, 9, 18}, {14, 10, 11, 18}}};

    public static void main(String[] args) {
        newDrawingIsEmpty();
        newYardHasNoBlocks();
        newYardHasNoMasons();
        newYardIsAtTheDay0();
        newYardHasSpentNothing();
        jointsAreNumberedFrom0();
        numbersOfDrawnJoint();
        numbersOfMovedJoint();
        pointsOfDrawnJoint();
        pointsOfMovedJoint();
        turnsOfDrawnJoint();
        turnsOfMovedRightJoint();
        turnsOfMovedLeftJoint();
        turnsOfMovedMiddleJoint();
        onlyTheLastJointCounts();
        drawJointWithStones();
        eightJoints();
        versionOfDrawnJoints();
        versionOfMovedJoints();
        versionOfRefusedJoints();
        noSuchJoint();
        moveJointBesideTheFirstPlace();
        moveJointBesideTheLastPlace();
        moveJointBetweenStones();
        moveJointUnderStandingArch();
        densityIsOutOfRange();
        densityBefore();
        densityWithStones();
        placesFromNoneToSeven();
        cornersOfAPlace();
        noSuchPlaceForArea();
        smallestAndGreatestArea();
        areaInHalves();
        noSuchPlaceForWeight();
        leastAndGreatestWeight();
        densityIs1AtFirst();
        loadIs0AtFirst();
        meanAreaOfNone();
        meanAreaOfOneAndMore();
        Due.end();
    }

    // ---- promise 1

    private static void newDrawingIsEmpty() {
        Doc.says("Promise 1", "a yard with an empty drawing");
        VoussoirYard yard = new VoussoirYard();
        Due.is(0, "places", yard::places);
        Due.fails(NO_SUCH, "the joint 0", () -> yard.moveJoint(0, 1, 1, 2, 2));
        Due.is(0, "the first joint drawn", () -> yard.drawJoint(1, 1, 2, 2));
    }

    private static void newYardHasNoBlocks() {
        Doc.says("Promise 1", "without blocks");
        VoussoirYard yard = new VoussoirYard();
        Due.fails(NO_SUCH, "the kind 0", () -> yard.blocks(0));
        Due.is(0, "the first kind added", () -> yard.addBlocks(1, 1, 1, 1, true));
    }

    private static void newYardHasNoMasons() {
        Doc.says("Promise 1", "and masons");
        VoussoirYard yard = Arches.beam(1, 4);
        yard.addBlocks(4, 4, 9, 1, true);
        Due.fails(NO_SUCH, "cut by the mason 0", () -> yard.cut(0, 0, 0));
        Due.is(0, "the first mason added", () -> yard.addMason(1, 1));
    }

    private static void newYardIsAtTheDay0() {
        Doc.says("Promise 1", "on the day 0");
        Due.is(1, "a day later", () -> new VoussoirYard().pass(1));
        VoussoirYard yard = Arches.quarriedBeam(1, 32);
        yard.cut(0, 0, 0);
        Due.is(1, "a day of work, begun today", () -> yard.readyOn(0));
    }

    private static void newYardHasSpentNothing() {
        Doc.says("Promise 1", "without money spent");
        Due.is(0L, "spent", () -> new VoussoirYard().spent());
    }

    // ---- promises 2 and 3: the joints

    private static void jointsAreNumberedFrom0() {
        Doc.says("Promise 2", "Returns its number.");
        VoussoirYard yard = new VoussoirYard();
        for (int joint = 0; joint < 8; joint++) {
            int number = joint;
            Due.is(number, "the joint " + number, () -> yard.drawJoint(2 * number, 0, 2 * number, 2));
        }
    }

    /** The joint (5, 6) to (7, 8) with one of its four numbers changed. */
    private static int[] changed(int which, int number) {
        int[] joint = {5, 6, 7, 8};
        joint[which] = number;
        return joint;
    }

    private static int draw(VoussoirYard yard, int[] at) {
        return yard.drawJoint(at[0], at[1], at[2], at[3]);
    }

    private static int move(VoussoirYard yard, int joint, int[] at) {
        return yard.moveJoint(joint, at[0], at[1], at[2], at[3]);
    }

    private static void numbersOfDrawnJoint() {
        Doc.says("Terms", "each at x and y from 0 to 20");
        Doc.says("Promise 2", "Throws `IllegalArgumentException` if a number is out of range");
        for (int which = 0; which < 4; which++) {
            int changed = which;
            Due.is(0, "0 as the number " + which, () -> draw(new VoussoirYard(), changed(changed, 0)));
            Due.is(0, "20 as the number " + which, () -> draw(new VoussoirYard(), changed(changed, 20)));
            for (int number : OUTSIDE) {
                Due.fails(WRONG, number + " as the number " + which,
                    () -> draw(new VoussoirYard(), changed(changed, number)));
            }
        }
    }

    private static void numbersOfMovedJoint() {
        Doc.says("Promise 3", "Throws `IllegalArgumentException` if a number is out of range");
        for (int which = 0; which < 4; which++) {
            int changed = which;
            VoussoirYard yard = Arches.drawn(new int[][] {{5, 6, 7, 8}});
            Due.is(2, "0 as the number " + which, () -> move(yard, 0, changed(changed, 0)));
            Due.is(3, "20 as the number " + which, () -> move(yard, 0, changed(changed, 20)));
            for (int number : OUTSIDE) {
                Due.fails(WRONG, number + " as the number " + which, () -> move(yard, 0, changed(changed, number)));
            }
        }
    }

    private static void pointsOfDrawnJoint() {
        Doc.says("Promise 2", "both points are the same");
        Due.fails(WRONG, "the same", () -> new VoussoirYard().drawJoint(7, 7, 7, 7));
        Due.fails(WRONG, "the same, at the edge", () -> new VoussoirYard().drawJoint(0, 0, 0, 0));
        Due.is(0, "the same x alone", () -> new VoussoirYard().drawJoint(7, 7, 7, 8));
        Due.is(0, "the same y alone", () -> new VoussoirYard().drawJoint(7, 7, 6, 7));
        Due.is(0, "x as the other's y", () -> new VoussoirYard().drawJoint(7, 8, 8, 7));
        Due.fails(WRONG, "the same, behind another joint", () -> Arches.beam(1, 4).drawJoint(8, 0, 8, 0));
    }

    private static void pointsOfMovedJoint() {
        Doc.says("Promise 3", "both points are the same");
        VoussoirYard yard = Arches.drawn(new int[][] {{7, 7, 7, 8}});
        Due.fails(WRONG, "the same", () -> yard.moveJoint(0, 7, 7, 7, 7));
        Due.is(2, "the same y alone", () -> yard.moveJoint(0, 7, 7, 6, 7));
        Due.is(3, "the same x alone", () -> yard.moveJoint(0, 7, 7, 7, 6));
        Due.fails(WRONG, "the same, beside another joint", () -> Arches.beam(1, 4).moveJoint(1, 4, 0, 4, 0));
    }

    private static void turnsOfDrawnJoint() {
        Doc.says("Terms", "all four turns must be to the left, none straight on");
        Doc.says("Promise 2", "or a place would not turn to the left four times");
        for (int corner = 0; corner < 4; corner++) {
            int[][] joints = TURNS[corner];
            VoussoirYard yard = Arches.drawn(new int[][] {{10, 10, 10, 14}});
            Due.fails(WRONG, "straight on at the corner " + corner, () -> draw(yard, joints[0]));
            Due.fails(WRONG, "to the right at the corner " + corner, () -> draw(yard, joints[1]));
            Due.is(1, "to the left at the corner " + corner, () -> draw(yard, joints[2]));
        }
    }

    private static void turnsOfMovedRightJoint() {
        Doc.says("Promise 3", "or a place would not turn to the left four times");
        for (int corner = 0; corner < 4; corner++) {
            int[][] joints = TURNS[corner];
            VoussoirYard yard = Arches.drawn(new int[][] {{10, 10, 10, 14}, {14, 10, 14, 14}});
            Due.fails(WRONG, "straight on at the corner " + corner, () -> move(yard, 1, joints[0]));
            Due.fails(WRONG, "to the right at the corner " + corner, () -> move(yard, 1, joints[1]));
            Due.is(3, "to the left at the corner " + corner, () -> move(yard, 1, joints[2]));
        }
    }

    /** The right joint as seen in a mirror at x = 10: a left one. */
    private static int[] mirrored(int[] joint) {
        return new int[] {20 - joint[0], joint[1], 20 - joint[2], joint[3]};
    }

    private static void turnsOfMovedLeftJoint() {
        Doc.says("Promise 3", "or a place would not turn to the left four times");
        for (int corner = 0; corner < 4; corner++) {
            int[][] joints = TURNS[corner];
            VoussoirYard yard = Arches.drawn(new int[][] {{6, 10, 6, 14}, {10, 10, 10, 14}});
            Due.fails(WRONG, "straight on, mirrored " + corner, () -> move(yard, 0, mirrored(joints[0])));
            Due.fails(WRONG, "to the right, mirrored " + corner, () -> move(yard, 0, mirrored(joints[1])));
            Due.is(3, "to the left, mirrored " + corner, () -> move(yard, 0, mirrored(joints[2])));
        }
    }

    private static void turnsOfMovedMiddleJoint() {
        Doc.says("Promise 3", "or a place would not turn to the left four times");
        VoussoirYard yard = Arches.beam(2, 4);
        Due.fails(WRONG, "flat on the left alone", () -> yard.moveJoint(1, 4, 0, 0, 4));
        Due.fails(WRONG, "flat on the right alone", () -> yard.moveJoint(1, 4, 0, 8, 4));
        Due.is(4, "one point off the left", () -> yard.moveJoint(1, 4, 0, 1, 4));
        Due.is(5, "one point off the right", () -> yard.moveJoint(1, 4, 0, 7, 4));
        Due.fails(WRONG, "beyond both", () -> yard.moveJoint(1, 9, 0, 0, 4));
    }

    private static void onlyTheLastJointCounts() {
        Doc.says("Promise 2", "Draws a joint to the right of the others.");
        // round about (10, 10), to the right: the fifth joint lies over the first one
        VoussoirYard yard = Arches.drawn(new int[][] {{9, 10, 5, 10}, {10, 12, 9, 16}, {12, 10, 16, 11},
            {10, 8, 10, 3}});
        Due.is(4, "over the first joint, but right of the last one", () -> yard.drawJoint(8, 10, 2, 10));
        Due.fails(WRONG, "right of the first joint, but not of the last one", () -> yard.drawJoint(10, 3, 10, 8));
    }

    private static void drawJointWithStones() {
        Doc.says("Promise 2", "Throws `UnsupportedOperationException` if a stone is set");
        VoussoirYard ready = Arches.readyBeam(2, 99999);
        Due.is(3, "stones in the yard and a centre", () -> ready.drawJoint(12, 0, 12, 4));
        Due.fails(NOT_NOW, "one stone is set", () -> Arches.filledBeam(2, 1).drawJoint(12, 0, 12, 4));
        Due.fails(NOT_NOW, "all stones are set", () -> Arches.filledBeam(2, 2).drawJoint(12, 0, 12, 4));
        VoussoirYard standing = Arches.filledBeam(2, 2);
        standing.strike();
        Due.fails(NOT_NOW, "the arch stands", () -> standing.drawJoint(12, 0, 12, 4));
        VoussoirYard fallen = Arches.fallen();
        fallen.moveJoint(4, 14, 3, 16, 3);
        Due.is(5, "it fell", () -> fallen.drawJoint(14, 0, 16, 0));
    }

    private static void eightJoints() {
        Doc.says("Terms", "An arch has at most 8 joints, numbered from 0");
        Doc.says("Promise 2", "Throws `IllegalStateException` if there are 8 joints");
        VoussoirYard yard = Arches.beam(6, 2);
        Due.is(7, "the eighth", () -> yard.drawJoint(14, 0, 14, 2));
        Due.fails(FULL, "a ninth", () -> yard.drawJoint(16, 0, 16, 2));
        Due.fails(FULL, "a ninth once more", () -> yard.drawJoint(16, 0, 16, 2));
        Due.is(7, "places", yard::places);
        Due.is(9, "the eighth can be moved", () -> yard.moveJoint(7, 15, 0, 15, 2));
    }

    private static void versionOfDrawnJoints() {
        Doc.says("Terms", "The version is 0 at first, and 1 more with each joint that is drawn");
        for (int joints = 1; joints <= 8; joints++) {
            int drawn = joints;
            Due.is(drawn + 1, "one more than " + drawn, () -> Arches.beam(drawn - 1, 2).moveJoint(0, 0, 0, 0, 2));
        }
    }

    private static void versionOfMovedJoints() {
        Doc.says("Terms", "or moved, also to where it is");
        Doc.says("Promise 3", "Returns the version.");
        VoussoirYard yard = Arches.beam(2, 4);
        Due.is(4, "moved", () -> yard.moveJoint(2, 9, 0, 9, 4));
        Due.is(5, "moved to where it is", () -> yard.moveJoint(2, 9, 0, 9, 4));
        Due.is(6, "another moved to where it is", () -> yard.moveJoint(0, 0, 0, 0, 4));
        Due.is(7, "moved back", () -> yard.moveJoint(2, 8, 0, 8, 4));
        yard.setDensity(3);
        Due.is(8, "the density is no version", () -> yard.moveJoint(1, 4, 0, 4, 4));
    }

    private static void versionOfRefusedJoints() {
        Doc.says("Terms", "A method that throws an exception changes nothing.");
        VoussoirYard yard = Arches.beam(7, 2);
        Due.fails(FULL, "a ninth joint", () -> yard.drawJoint(16, 0, 16, 2));
        Due.fails(WRONG, "drawn out of range", () -> yard.drawJoint(16, 0, 16, 21));
        Due.fails(WRONG, "moved out of range", () -> yard.moveJoint(7, 16, 0, 16, 21));
        Due.fails(WRONG, "moved over another", () -> yard.moveJoint(7, 1, 0, 1, 2));
        Due.fails(NO_SUCH, "no joint", () -> yard.moveJoint(8, 16, 0, 16, 2));
        Due.is(9, "the next version", () -> yard.moveJoint(7, 14, 0, 14, 2));
        Due.is(8, "the last place is as it was", () -> yard.area(6));
    }

    private static void noSuchJoint() {
        Doc.says("Promise 3", "Throws `IndexOutOfBoundsException` if there is no such joint");
        VoussoirYard yard = Arches.beam(2, 4);
        Due.fails(NO_SUCH, "-1", () -> yard.moveJoint(-1, 0, 0, 0, 4));
        Due.fails(NO_SUCH, "3 of 3", () -> yard.moveJoint(3, 12, 0, 12, 4));
        Due.fails(NO_SUCH, "8", () -> yard.moveJoint(8, 12, 0, 12, 4));
        Due.fails(NO_SUCH, "the least int", () -> yard.moveJoint(Integer.MIN_VALUE, 0, 0, 0, 4));
        Due.fails(NO_SUCH, "the greatest int", () -> yard.moveJoint(Integer.MAX_VALUE, 12, 0, 12, 4));
        Due.fails(NO_SUCH, "0 of none", () -> new VoussoirYard().moveJoint(0, 0, 0, 0, 4));
        Due.fails(NO_SUCH, "8 of 8", () -> Arches.beam(7, 2).moveJoint(8, 16, 0, 16, 2));
        Due.is(4, "the first one", () -> yard.moveJoint(0, 0, 0, 0, 4));
        Due.is(5, "the last one", () -> yard.moveJoint(2, 8, 0, 8, 4));
    }

    // ---- promise 3: the stones beside a joint

    private static Object moveToWhereItIs(VoussoirYard yard, int joint) {
        return yard.moveJoint(joint, 4 * joint, 0, 4 * joint, 4);
    }

    private static void moveJointBesideTheFirstPlace() {
        Doc.says("Promise 3", "Throws `UnsupportedOperationException` if a place beside it is filled");
        VoussoirYard yard = Arches.filledBeam(3, 1);
        Due.fails(NOT_NOW, "the joint to the left of it", () -> moveToWhereItIs(yard, 0));
        Due.fails(NOT_NOW, "the joint to the right of it", () -> moveToWhereItIs(yard, 1));
        Due.is(5, "the next joint", () -> moveToWhereItIs(yard, 2));
        Due.is(6, "the last joint", () -> moveToWhereItIs(yard, 3));
    }

    private static void moveJointBesideTheLastPlace() {
        Doc.says("Promise 3", "Throws `UnsupportedOperationException` if a place beside it is filled");
        VoussoirYard yard = Arches.readyBeam(3, 99999);
        Due.is(5, "no place is filled, but there is a centre", () -> moveToWhereItIs(yard, 3));
        yard.set(0, 2);
        Due.fails(NOT_NOW, "the joint to the right of it", () -> moveToWhereItIs(yard, 3));
        Due.fails(NOT_NOW, "the joint to the left of it", () -> moveToWhereItIs(yard, 2));
        Due.is(6, "the next joint", () -> moveToWhereItIs(yard, 1));
        Due.is(7, "the first joint", () -> moveToWhereItIs(yard, 0));
    }

    private static void moveJointBetweenStones() {
        Doc.says("Promise 3", "Throws `UnsupportedOperationException` if a place beside it is filled");
        VoussoirYard yard = Arches.readyBeam(4, 99999);
        yard.set(0, 0);
        yard.set(1, 3);
        Due.is(6, "the middle of the two empty places", () -> yard.moveJoint(2, 7, 0, 9, 4));
        Due.fails(NOT_NOW, "filled to the left, empty to the right", () -> moveToWhereItIs(yard, 1));
        Due.fails(NOT_NOW, "empty to the left, filled to the right", () -> moveToWhereItIs(yard, 3));
    }

    private static void moveJointUnderStandingArch() {
        Doc.says("Promise 3", "Throws `UnsupportedOperationException` if a place beside it is filled");
        VoussoirYard arch = Arches.standing();
        for (int joint = 0; joint < 5; joint++) {
            int[] at = new int[][] {{2, 0, 0, 0}, {3, 6, 1, 8}, {8, 10, 8, 15}, {13, 6, 15, 8}, {14, 0, 16, 0}}[joint];
            int moved = joint;
            Due.fails(NOT_NOW, "the joint " + joint + " of an arch that stands", () -> move(arch, moved, at));
        }
        arch.load(1, 20000);
        Due.is(6, "it fell", () -> arch.moveJoint(0, 2, 0, 0, 0));
    }

    // ---- promise 4

    private static void densityIsOutOfRange() {
        Doc.says("Promise 4", "the density, 1 to 3");
        Doc.says("Promise 4", "Throws `IllegalArgumentException` if it is out of range");
        VoussoirYard yard = new VoussoirYard();
        int[] outside = {0, 4, -1, Integer.MIN_VALUE, Integer.MAX_VALUE};
        for (int density : outside) {
            Due.fails(WRONG, "" + density, () -> yard.setDensity(density));
        }
        Due.is(1, "3", () -> yard.setDensity(3));
        Due.is(3, "1", () -> yard.setDensity(1));
        Due.is(1, "2", () -> yard.setDensity(2));
    }

    private static void densityBefore() {
        Doc.says("Promise 4", "Returns the one before.");
        VoussoirYard yard = Arches.beam(1, 4);
        Due.is(1, "the first one", () -> yard.setDensity(1));
        Due.is(1, "the same again", () -> yard.setDensity(3));
        Due.fails(WRONG, "a refused one", () -> yard.setDensity(4));
        Due.is(3, "not the refused one", () -> yard.setDensity(3));
        Due.is(288, "the weight of the last one", () -> yard.weight(0));
    }

    private static void densityWithStones() {
        Doc.says("Promise 4", "Throws `UnsupportedOperationException` if a stone is set");
        Due.is(1, "stones in the yard and a centre", () -> Arches.readyBeam(2, 99999).setDensity(2));
        VoussoirYard yard = Arches.filledBeam(3, 1);
        Due.fails(NOT_NOW, "one stone is set", () -> yard.setDensity(2));
        Due.fails(NOT_NOW, "also to what it is", () -> yard.setDensity(1));
        Due.is(96, "the weight stays", () -> yard.weight(2));
        Due.fails(NOT_NOW, "the arch stands", () -> Arches.standing().setDensity(2));
        Due.is(1, "it fell", () -> Arches.fallen().setDensity(2));
    }

    // ---- promises 5 to 7 and 32

    private static void placesFromNoneToSeven() {
        Doc.says("Promise 5", "Returns the number of places.");
        VoussoirYard yard = new VoussoirYard();
        Due.is(0, "no joint", yard::places);
        for (int joint = 0; joint < 8; joint++) {
            int number = joint;
            yard.drawJoint(2 * joint, 0, 2 * joint, 2);
            Due.is(number, (number + 1) + " joints", yard::places);
        }
        Due.fails(FULL, "a ninth joint", () -> yard.drawJoint(16, 0, 16, 2));
        Due.is(7, "without the ninth joint", yard::places);
    }

    private static void cornersOfAPlace() {
        Doc.says("Terms", "Between two joints next to each other is a stone place, numbered as its left joint.");
        Doc.says("Terms", "Its corners are the inner points of both joints, then the outer point of the right one, "
            + "then that of the left one");
        VoussoirYard yard = Arches.drawn(new int[][] {{0, 0, 0, 1}, {2, 0, 2, 5}, {3, 0, 3, 2}});
        Due.is(12, "the place 0, right of the joint 0", () -> yard.area(0));
        Due.is(7, "the place 1, right of the joint 1", () -> yard.area(1));
    }

    private static void noSuchPlaceForArea() {
        Doc.says("Promise 6", "Throws `IndexOutOfBoundsException` if there is no such place");
        VoussoirYard yard = Arches.beam(3, 4);
        int[] outside = {-1, 3, 7, 8, Integer.MIN_VALUE, Integer.MAX_VALUE};
        for (int place : outside) {
            Due.fails(NO_SUCH, place + " of 3", () -> yard.area(place));
        }
        Due.is(32, "the first", () -> yard.area(0));
        Due.is(32, "the last", () -> yard.area(2));
        Due.fails(NO_SUCH, "0 without joints", () -> new VoussoirYard().area(0));
        Due.fails(NO_SUCH, "0 with one joint", () -> Arches.beam(0, 4).area(0));
        Due.fails(NO_SUCH, "7 of 7", () -> Arches.beam(7, 2).area(7));
        Due.is(8, "6 of 7", () -> Arches.beam(7, 2).area(6));
    }

    private static void smallestAndGreatestArea() {
        Doc.says("Promise 6", "Returns the doubled area.");
        Due.is(2, "the smallest", () -> Arches.beam(1, 1).area(0));
        Due.is(800, "the greatest", () -> Arches.beam(1, 20).area(0));
        Due.is(2, "the smallest at the far corner",
            () -> Arches.drawn(new int[][] {{19, 19, 19, 20}, {20, 19, 20, 20}}).area(0));
    }

    private static void areaInHalves() {
        Doc.says("Terms", "The area of a place is counted in halves: its doubled area.");
        Due.is(3, "one and a half", () -> Arches.drawn(new int[][] {{0, 0, 0, 1}, {1, 0, 2, 1}}).area(0));
        Due.is(7, "three and a half", () -> Arches.drawn(new int[][] {{0, 0, 0, 1}, {2, 0, 3, 2}}).area(0));
    }

    private static void noSuchPlaceForWeight() {
        Doc.says("Promise 7", "Throws `IndexOutOfBoundsException` if there is no such place");
        VoussoirYard yard = Arches.beam(3, 4);
        int[] outside = {-1, 3, 7, 8, Integer.MIN_VALUE, Integer.MAX_VALUE};
        for (int place : outside) {
            Due.fails(NO_SUCH, place + " of 3", () -> yard.weight(place));
        }
        Due.is(96, "the first", () -> yard.weight(0));
        Due.is(96, "the last", () -> yard.weight(2));
        Due.fails(NO_SUCH, "0 without joints", () -> new VoussoirYard().weight(0));
        Due.fails(NO_SUCH, "0 with one joint", () -> Arches.beam(0, 4).weight(0));
        Due.fails(NO_SUCH, "7 of 7", () -> Arches.beam(7, 2).weight(7));
    }

    private static void leastAndGreatestWeight() {
        Doc.says("Promise 7", "Returns the weight.");
        Doc.says("Terms", "The weight of a place is 3 times its doubled area, times the density");
        Due.is(6, "the least", () -> Arches.beam(1, 1).weight(0));
        VoussoirYard heavy = Arches.beam(1, 20);
        heavy.setDensity(2);
        Due.is(4800, "at the density 2", () -> heavy.weight(0));
        heavy.setDensity(3);
        Due.is(7200, "the greatest", () -> heavy.weight(0));
    }

    private static void densityIs1AtFirst() {
        Doc.says("Terms", "the density, which is 1 at first");
        Due.is(1, "before any other", () -> new VoussoirYard().setDensity(3));
        Due.is(96, "a weight before any other", () -> Arches.beam(1, 4).weight(0));
    }

    private static void loadIs0AtFirst() {
        Doc.says("Terms", "A load, 0 at first, rests at the outer point of the left joint of each place, "
            + "and belongs to the place.");
        VoussoirYard arch = Arches.standing();
        long without = arch.thrust(8);
        for (int place = 0; place < 4; place++) {
            int on = place;
            Due.is(true, "the load 0 on " + place, () -> arch.load(on, 0));
            Due.is(without, "is what it was", () -> arch.thrust(8));
        }
        Due.is(true, "another load", () -> arch.load(2, 100));
        Due.is(true, "asks for another thrust", () -> arch.thrust(8) != without);
    }

    private static void meanAreaOfNone() {
        Doc.says("Promise 32", "Throws `ArithmeticException` if there are none");
        Due.fails(ArithmeticException.class, "no joint", () -> new VoussoirYard().meanArea());
        Due.fails(ArithmeticException.class, "one joint", () -> Arches.beam(0, 4).meanArea());
    }

    private static void meanAreaOfOneAndMore() {
        Doc.says("Promise 32", "Returns the sum divided by their number, both converted to double.");
        Due.is(2.0, "the smallest one", () -> Arches.beam(1, 1).meanArea());
        Due.is(800.0, "the greatest one", () -> Arches.beam(1, 20).meanArea());
        Due.is(8.0, "seven of them", () -> Arches.beam(7, 2).meanArea());
        VoussoirYard thirds = Arches.drawn(new int[][] {{0, 0, 0, 1}, {1, 0, 1, 1}, {2, 0, 2, 1}, {4, 0, 3, 1}});
        Due.is(7.0 / 3.0, "a third, as near as double comes", thirds::meanArea);
        VoussoirYard fallen = Arches.fallen();
        Due.is((double) (fallen.area(0) + fallen.area(1) + fallen.area(2) + fallen.area(3)) / 4.0,
            "of the drawing, whatever is set", fallen::meanArea);
    }
}
