import java.util.NoSuchElementException;

/** The boundary cases of promises 8 to 11, and of the terms Thrust and Grip: a test for each sentence. */
public final class ThrustBoundsTest {
    private static final Class<IndexOutOfBoundsException> NO_SUCH = IndexOutOfBoundsException.class;
    private static final Class<IllegalArgumentException> WRONG = IllegalArgumentException.class;
    private static final Class<NoSuchElementException> NOTHING = NoSuchElementException.class;
    private static final int[] OUTSIDE = {-1, 11, Integer.MIN_VALUE, Integer.MAX_VALUE};

    public static void main(String[] args) {
        gripOfIsSafe();
        gripOfThrust();
        gripOfBears();
        placesForIsSafe();
        placesForThrust();
        placesForBears();
        whateverIsSet();
        pushFrom0On();
        lineThroughInnerPoint();
        lineBeyondAPointByTheLeast();
        lineThroughOuterPoint();
        lineThroughPointsOfAnArch();
        weightsAndLoadsOfThePlacesBetween();
        noPull();
        noPullAtTheFirstJoint();
        noPullAtTheLastJoint();
        justAsManyTenths();
        forceOf0();
        thrustInFractions();
        loadAtTheOuterPointOfTheLeftJoint();
        thrustRoundedUp();
        thrustOfUnsafeArch();
        noSuchPlaceForBears();
        bearsTheGreatestWholeNumber();
        bearsNothing();
        bearsAtMost20000();
        bearsInPlaceOfItsLoad();
        bearsWhileOthersAreLoaded();
        bearsNotEvenTheLoad0();
        bearsChangesNoLoad();
        gripOf3();
        gripAfterEachFiveDays();
        gripAtMost8();
        gripCountsTheDayOfSetting();
        gripInFrost();
        gripOverTheEndOfTheYear();
        gripInTheSecondYear();
        gripWithoutAllStones();
        gripSinceTheLastStone();
        gripWithSpareStones();
        gripOfNoPlaceAndOfOne();
        gripAfterAFall();
        Due.end();
    }

    // ---- promises 8 to 10: what they refuse

    private static void gripOfIsSafe() {
        Doc.says("Promise 8", "the grip, 0 to 10");
        Doc.says("Promise 8", "Throws `IllegalArgumentException` if the grip is out of range");
        VoussoirYard yard = Arches.beam(2, 4);
        for (int grip : OUTSIDE) {
            Due.fails(WRONG, "" + grip, () -> yard.isSafe(grip));
        }
        Due.is(false, "0", () -> yard.isSafe(0));
        Due.is(true, "1", () -> yard.isSafe(1));
        Due.is(true, "10", () -> yard.isSafe(10));
    }

    private static void gripOfThrust() {
        Doc.says("Promise 9", "the grip, 0 to 10");
        Doc.says("Promise 9", "Throws `IllegalArgumentException` if the grip is out of range");
        VoussoirYard yard = rightLeaningPile(3, 6);
        for (int grip : OUTSIDE) {
            Due.fails(WRONG, "" + grip, () -> yard.thrust(grip));
        }
        Due.is(0L, "0", () -> yard.thrust(0));
        Due.is(0L, "10", () -> yard.thrust(10));
    }

    private static void gripOfBears() {
        Doc.says("Promise 10", "the grip, 0 to 10");
        Doc.says("Promise 10", "Throws `IllegalArgumentException` if the grip is out of range");
        VoussoirYard yard = rightLeaningPile(0, 0);
        for (int grip : OUTSIDE) {
            Due.fails(WRONG, "" + grip, () -> yard.bears(0, grip));
        }
        Due.is(20000, "0", () -> yard.bears(0, 0));
        Due.is(20000, "10", () -> yard.bears(0, 10));
    }

    private static void placesForIsSafe() {
        Doc.says("Promise 8", "Throws `NoSuchElementException` if there are less than 2 places");
        Due.fails(NOTHING, "no joint", () -> new VoussoirYard().isSafe(10));
        Due.fails(NOTHING, "no place", () -> Arches.beam(0, 4).isSafe(10));
        Due.fails(NOTHING, "1 place", () -> Arches.beam(1, 4).isSafe(10));
        Due.is(true, "2 places", () -> Arches.beam(2, 4).isSafe(10));
        Due.is(true, "7 places", () -> Arches.beam(7, 2).isSafe(10));
    }

    private static void placesForThrust() {
        Doc.says("Promise 9", "Throws `NoSuchElementException` if there are less than 2 places");
        Due.fails(NOTHING, "no joint", () -> new VoussoirYard().thrust(10));
        Due.fails(NOTHING, "no place", () -> Arches.beam(0, 4).thrust(10));
        Due.fails(NOTHING, "1 place", () -> Arches.beam(1, 4).thrust(10));
        Due.is(96L, "2 places", () -> Arches.beam(2, 4).thrust(10));
        // 42 in all, half of it on each side
        Due.is(true, "7 places", () -> Arches.beam(7, 1).thrust(10) >= 21);
    }

    private static void placesForBears() {
        Doc.says("Promise 10", "Throws `NoSuchElementException` if there are less than 2 places");
        Due.fails(NOTHING, "1 place", () -> Arches.beam(1, 4).bears(0, 10));
        Due.is(20000, "2 places", () -> Arches.beam(2, 4).bears(0, 10));
        Due.fails(NO_SUCH, "no place at all", () -> Arches.beam(0, 4).bears(0, 10));
    }

    private static void whateverIsSet() {
        Doc.says("Promise 8", "as it is drawn would be safe with its loads, whatever is set");
        for (int filled = 0; filled <= 2; filled++) {
            VoussoirYard yard = Arches.filledBeam(2, filled);
            Due.is(true, "the grip 10, filled: " + filled, () -> yard.isSafe(10));
            Due.is(false, "the grip 0, filled: " + filled, () -> yard.isSafe(0));
            Due.is(320L, "the thrust, filled: " + filled, () -> yard.thrust(3));
        }
    }

    // ---- the term Thrust

    /** Lying joints, 6 wide and 4 above each other, each moved to the right of the foot: all weights alike. */
    private static VoussoirYard rightLeaningPile(int first, int second) {
        return Arches.drawn(new int[][] {{6, 0, 0, 0}, {6 + first, 4, first, 4}, {6 + second, 8, second, 8}});
    }

    /** The same to the left of a foot from 8 to 14. */
    private static VoussoirYard leftLeaningPile(int first, int second) {
        return Arches.drawn(new int[][] {{14, 0, 8, 0}, {14 - first, 4, 8 - first, 4},
            {14 - second, 8, 8 - second, 8}});
    }

    /** A pile on a foot that is so many tenths lower at its left end; its other joints lie level. */
    private static VoussoirYard pileOnSlope(int tenths) {
        return Arches.drawn(new int[][] {{10, tenths, 0, 0}, {10, 12, 0, 12}, {10, 16, 0, 16}});
    }

    private static void pushFrom0On() {
        Doc.says("Terms", "An arch is safe if there are H, from 0 on");
        Due.is(0L, "no push at all", () -> rightLeaningPile(0, 0).thrust(0));
        Due.is(0L, "no push at the greatest grip", () -> rightLeaningPile(0, 0).thrust(10));
        // a push to the left, of 1 tenth, would help the grip 2 on a slope of 3 tenths
        Due.is(false, "a push to the left would be wanted", () -> pileOnSlope(3).isSafe(2));
    }

    /** The centres of gravity are at 4.5 and 7.5: together at 6, where the foot ends. */
    private static void lineThroughInnerPoint() {
        Doc.says("Terms", "the line goes through the joint, between its points or through one of them");
        Due.is(true, "just through the inner point of the foot", () -> rightLeaningPile(3, 6).isSafe(0));
        Due.is(false, "beyond it by a quarter", () -> rightLeaningPile(3, 7).isSafe(0));
        Due.is(true, "short of it by a quarter", () -> rightLeaningPile(3, 5).isSafe(0));
    }

    /** A pile whose turning about its points misses the balance by 1, where the grip is no matter. */
    private static void lineBeyondAPointByTheLeast() {
        Doc.says("Terms", "the line goes through the joint, between its points or through one of them");
        int[][] joints = {{4, 0, 3, 0}, {4, 2, 3, 2}, {7, 3, 4, 3}, {7, 4, 5, 4}};
        for (int grip = 6; grip <= 10; grip++) {
            int with = grip;
            Due.is(false, "another way to find it", () -> new CornerOracle(joints, 1, new int[3], with).isSafe());
            Due.is(false, "the grip " + grip, () -> Arches.drawn(joints).isSafe(with));
        }
    }

    private static void lineThroughOuterPoint() {
        Doc.says("Terms", "the line goes through the joint, between its points or through one of them");
        Due.is(true, "just through the outer point of the foot", () -> leftLeaningPile(3, 6).isSafe(0));
        Due.is(false, "beyond it by a quarter", () -> leftLeaningPile(3, 7).isSafe(0));
        Due.is(true, "short of it by a quarter", () -> leftLeaningPile(3, 5).isSafe(0));
    }

    /**
     * Each half weighs 105, with its centre of gravity 3 from the middle. Through the inner points of both feet,
     * 5 from the middle, and the outer point of the middle joint, 10 above them: H is 105 * (5 - 3) / 10 = 21, as
     * a least. At the feet the grip 2 lets H be 21 at most.
     */
    private static void lineThroughPointsOfAnArch() {
        Doc.says("Terms", "between its points or through one of them");
        VoussoirYard yard = Arches.drawn(new int[][] {{5, 1, 3, 1}, {10, 8, 10, 11}, {15, 1, 17, 1}});
        Due.is(true, "through three points, at the end of the grip", () -> yard.isSafe(2));
        Due.is(21L, "its thrust", () -> yard.thrust(2));
        Due.is(false, "less grip", () -> yard.isSafe(1));
        yard.moveJoint(1, 10, 8, 10, 10);
        Due.is(false, "the middle one lower", () -> yard.isSafe(2));
        yard.moveJoint(1, 10, 8, 10, 12);
        Due.is(true, "the middle one higher", () -> yard.isSafe(2));
    }

    private static void weightsAndLoadsOfThePlacesBetween() {
        Doc.says("Terms", "At each joint the part to the left pushes on the part to the right by a force");
        Doc.says("Terms", "the part upwards becomes less by the weight and the load of the place between");
        VoussoirYard yard = Arches.filledBeam(2, 2);
        yard.strike();
        int[] loads = {0, 1, 2, 3, 20000};
        // half of 192 and of the load upwards at each end, which are 3 tenths of the push
        long[] least = {320, 322, 324, 325, 33654};
        for (int i = 0; i < loads.length; i++) {
            int load = loads[i];
            Due.is(true, "the load " + load, () -> yard.load(1, load));
            Due.is(least[i], "its thrust", () -> yard.thrust(3));
        }
    }

    private static void noPull() {
        Doc.says("Terms", "taken apart along the joint and square to it, does not pull there");
        VoussoirYard hanging = Arches.drawn(new int[][] {{0, 10, 4, 10}, {10, 0, 10, 4}, {20, 10, 16, 10}});
        VoussoirYard above = Arches.drawn(new int[][] {{0, 10, 5, 10}, {0, 5, 5, 5}, {0, 0, 5, 0}});
        for (int grip = 0; grip <= 10; grip++) {
            int with = grip;
            Due.is(false, "a chain that hangs, at the grip " + grip, () -> hanging.isSafe(with));
            Due.is(true, "a pile that goes down, at the grip " + grip, () -> above.isSafe(with));
        }
    }

    /** The upper stone turns to the left over x = 2: at its centre of gravity, 1.89, it weighs 18. */
    private static void noPullAtTheFirstJoint() {
        Doc.says("Terms", "does not pull there");
        VoussoirYard yard = Arches.drawn(new int[][] {{0, 4, 1, 4}, {2, 2, 4, 2}, {2, 0, 4, 0}});
        Due.is(false, "a pull upwards of 1 would hold it", () -> yard.isSafe(0));
        yard.moveJoint(0, 1, 4, 2, 4);
        Due.is(true, "its centre of gravity at 2.33", () -> yard.isSafe(0));
    }

    /** The upper stone turns to the right over x = 2: at its centre of gravity, 2.11, it weighs 9. */
    private static void noPullAtTheLastJoint() {
        Doc.says("Terms", "does not pull there");
        VoussoirYard yard = Arches.drawn(new int[][] {{2, 0, 1, 0}, {2, 2, 0, 2}, {4, 3, 3, 3}});
        Due.is(false, "a pull upwards of a half would hold it", () -> yard.isSafe(0));
        yard.moveJoint(2, 3, 3, 2, 3);
        Due.is(true, "its centre of gravity at 1.67", () -> yard.isSafe(0));
    }

    private static void justAsManyTenths() {
        Doc.says("Terms", "is along it at most as many tenths of what it is square to it as the grip tells");
        for (int slope = 0; slope <= 10; slope++) {
            VoussoirYard yard = pileOnSlope(slope);
            int just = slope;
            Due.is(true, "the grip " + slope + " on a slope of as many tenths", () -> yard.isSafe(just));
            Due.is(0L, "without a push", () -> yard.thrust(just));
            if (slope > 0) {
                Due.is(false, "the grip " + (slope - 1) + " on a slope of " + slope, () -> yard.isSafe(just - 1));
            }
        }
        // 96 upwards at each end: at the grip 3 just 3 tenths of 320
        Due.is(320L, "upright joints", () -> Arches.beam(2, 4).thrust(3));
    }

    /** The centres of gravity are at 4 and 8, together at 6, where the foot ends; the last joint begins at 8. */
    private static void forceOf0() {
        Doc.says("Terms", "where the force is 0, all to the left of the joint must be in balance without it");
        Due.is(true, "in balance without the force at the last joint", () -> rightLeaningPile(2, 8).isSafe(0));
        Due.is(0L, "its thrust", () -> rightLeaningPile(2, 8).thrust(0));
        Due.is(false, "not in balance, and no force there can help", () -> rightLeaningPile(2, 9).isSafe(0));
    }

    /** Each half weighs 96; what the grip lets be and what the line asks for meet at H = 19.2. */
    private static void thrustInFractions() {
        Doc.says("Terms", "V and a line at the first joint, as fractions or not");
        VoussoirYard yard = Arches.drawn(new int[][] {{6, 0, 2, 0}, {10, 2, 10, 5}, {14, 0, 18, 0}});
        Due.is(true, "safe with 19.2 alone", () -> yard.isSafe(2));
        Due.is(20L, "rounded up", () -> yard.thrust(2));
        Due.is(false, "less grip", () -> yard.isSafe(1));
        VoussoirYard half = Arches.drawn(new int[][] {{7, 0, 4, 0}, {10, 3, 10, 4}, {13, 0, 16, 0}});
        Due.is(true, "safe with 4.5 alone", () -> half.isSafe(1));
        Due.is(5L, "4.5 rounded up", () -> half.thrust(1));
    }

    /** 144 turn by 1.5 to the right of the foot's left end at 8, and 160 / 132 of 132 to the left: 56 are left. */
    private static VoussoirYard pileThatBears56ThirdsAtThePlace1() {
        return Arches.drawn(new int[][] {{14, 0, 8, 0}, {11, 4, 5, 4}, {8, 8, 3, 8}});
    }

    private static void loadAtTheOuterPointOfTheLeftJoint() {
        Doc.says("Terms", "which act at the x of its centre of gravity, and of its load");
        VoussoirYard yard = pileThatBears56ThirdsAtThePlace1();
        Due.is(20000, "a load at the left end of the foot itself", () -> yard.bears(0, 0));
        Due.is(18, "a load 3 to the left of it", () -> yard.bears(1, 0));
    }

    // ---- promise 9

    private static void thrustRoundedUp() {
        Doc.says("Terms", "Its least thrust is the least H of all those.");
        Doc.says("Promise 9", "Returns the least thrust, rounded up.");
        VoussoirYard beam = Arches.beam(2, 4);
        Due.is(120L, "960 / 8 is whole", () -> beam.thrust(8));
        Due.is(107L, "960 / 9 is 106 and two thirds", () -> beam.thrust(9));
        Due.is(138L, "960 / 7 is 137 and a seventh", () -> beam.thrust(7));
        VoussoirYard steep = Arches.drawn(new int[][] {{7, 1, 2, 1}, {10, 4, 10, 8}, {13, 1, 18, 1}});
        Due.is(1L, "two sevenths", () -> steep.thrust(10));
        Due.is(0L, "0", () -> rightLeaningPile(0, 0).thrust(0));
    }

    private static void thrustOfUnsafeArch() {
        Doc.says("Promise 9", "or it would not be safe");
        Due.fails(NOTHING, "a beam without grip", () -> Arches.beam(2, 4).thrust(0));
        Due.fails(NOTHING, "a pile that topples", () -> rightLeaningPile(3, 7).thrust(0));
        Due.fails(NOTHING, "a slope", () -> pileOnSlope(10).thrust(9));
    }

    // ---- promise 10

    private static void noSuchPlaceForBears() {
        Doc.says("Promise 10", "Throws `IndexOutOfBoundsException` if there is no such place");
        VoussoirYard yard = Arches.beam(3, 4);
        int[] outside = {-1, 3, 7, 8, Integer.MIN_VALUE, Integer.MAX_VALUE};
        for (int place : outside) {
            Due.fails(NO_SUCH, place + " of 3", () -> yard.bears(place, 10));
        }
        Due.is(20000, "the first", () -> yard.bears(0, 10));
        Due.is(20000, "the last", () -> yard.bears(2, 10));
        Due.fails(NO_SUCH, "7 of 7", () -> Arches.beam(7, 2).bears(7, 10));
        Due.fails(NO_SUCH, "0 without joints", () -> new VoussoirYard().bears(0, 10));
    }

    private static void bearsTheGreatestWholeNumber() {
        Doc.says("Promise 10", "Returns the greatest whole number");
        VoussoirYard yard = pileThatBears56ThirdsAtThePlace1();
        Due.is(18, "56 / 3 at the density 1", () -> yard.bears(1, 0));
        yard.setDensity(2);
        Due.is(37, "112 / 3 at the density 2", () -> yard.bears(1, 0));
        yard.setDensity(3);
        Due.is(56, "56 at the density 3 is whole", () -> yard.bears(1, 0));
    }

    private static void bearsNothing() {
        Doc.says("Promise 10", "Returns the greatest load on a place");
        Due.is(0, "just balanced as it is", () -> leftLeaningPile(3, 6).bears(1, 0));
        VoussoirYard arch = Arches.drawn(new int[][] {{4, 1, 3, 1}, {7, 6, 7, 7}, {13, 6, 14, 7}, {16, 1, 17, 1}});
        Due.is(true, "safe with the load 0", () -> arch.isSafe(7));
        Due.is(0, "but not with 1", () -> arch.bears(1, 7));
        int[][] joints = {{3, 1, 0, 0}, {10, 7, 9, 11}, {17, 1, 20, 2}};
        Due.is(true, "1 is safe", () -> new CornerOracle(joints, 1, new int[] {0, 1}, 7).isSafe());
        Due.is(false, "2 is not", () -> new CornerOracle(joints, 1, new int[] {0, 2}, 7).isSafe());
        Due.is(1, "1 at most", () -> Arches.drawn(joints).bears(1, 7));
    }

    private static void bearsAtMost20000() {
        Doc.says("Promise 10", "at most 20000");
        Due.is(20000, "it would bear any", () -> rightLeaningPile(0, 0).bears(1, 0));
        int[][] joints = {{6, 0, 1, 0}, {7, 4, 3, 8}, {10, 6, 9, 13}, {12, 5, 15, 11}, {14, 2, 19, 3}};
        int[] most = {0, 19999, 0, 0};
        int[] more = {0, 20000, 0, 0};
        Due.is(true, "19999 is safe", () -> new CornerOracle(joints, 1, most, 9).isSafe());
        Due.is(false, "20000 is not", () -> new CornerOracle(joints, 1, more, 9).isSafe());
        Due.is(19999, "one less than the most", () -> Arches.drawn(joints).bears(1, 9));
    }

    private static void bearsInPlaceOfItsLoad() {
        Doc.says("Promise 10", "in place of the one that it has");
        VoussoirYard arch = Arches.standing();
        Due.is(1015, "without a load", () -> arch.bears(1, 8));
        arch.load(1, 1);
        Due.is(1015, "with the load 1", () -> arch.bears(1, 8));
        arch.load(1, 1015);
        Due.is(1015, "with the greatest load", () -> arch.bears(1, 8));
    }

    private static void bearsWhileOthersAreLoaded() {
        Doc.says("Promise 10", "with which the arch as it is drawn would be safe");
        VoussoirYard arch = Arches.standing();
        arch.load(2, 1);
        Due.is(1017, "1 on the other side lets it bear more", () -> arch.bears(1, 8));
        arch.load(2, 0);
        Due.is(1015, "without it", () -> arch.bears(1, 8));
        Due.is(1015, "as it is drawn, with no stone set", () -> Arches.pointed().bears(1, 8));
    }

    private static void bearsNotEvenTheLoad0() {
        Doc.says("Promise 10", "or it would not be safe with the load 0");
        Due.fails(NOTHING, "a beam without grip", () -> Arches.beam(2, 4).bears(0, 0));
        Due.fails(NOTHING, "a pile that topples", () -> leftLeaningPile(3, 7).bears(0, 0));
        VoussoirYard arch = Arches.standing();
        arch.load(3, 20000);
        arch.load(1, 1016);
        Due.is(true, "safe with both loads", () -> arch.isSafe(8));
        Due.fails(NOTHING, "but not with the one alone", () -> arch.bears(3, 8));
        Due.is(true, "the other may go", () -> arch.bears(1, 8) > 1016);
    }

    private static void bearsChangesNoLoad() {
        Doc.says("Terms", "A method that throws an exception changes nothing.");
        VoussoirYard arch = Arches.standing();
        arch.load(1, 500);
        long thrust = arch.thrust(8);
        for (int place = 0; place < 4; place++) {
            arch.bears(place, 8);
        }
        Due.is(thrust, "after bears", () -> arch.thrust(8));
        Due.fails(NOTHING, "bears without grip", () -> arch.bears(1, 0));
        Due.is(thrust, "after bears that failed", () -> arch.thrust(8));
    }

    // ---- promise 11

    /** A beam of two squares, both set on the same day. */
    private static VoussoirYard setOn(int day) {
        VoussoirYard yard = Arches.quarriedBeam(2, 99);
        yard.cut(0, 0, 0);
        yard.cut(1, 0, 0);
        passDays(yard, day);
        yard.setCentre(99999);
        yard.set(0, 0);
        yard.set(1, 1);
        return yard;
    }

    private static void passDays(VoussoirYard yard, int days) {
        int left = days;
        while (left > 0) {
            int some = Math.min(99, left);
            yard.pass(some);
            left -= some;
        }
    }

    private static void gripOn(int want, int setDay, int day) {
        Due.is(want, "set on the day " + setDay + ", asked on the day " + day, () -> {
            VoussoirYard yard = setOn(setDay);
            passDays(yard, day - setDay);
            return yard.grip();
        });
    }

    private static void gripOf3() {
        Doc.says("Terms", "The grip is 3");
        Due.is(3, "of a new yard", () -> new VoussoirYard().grip());
        gripOn(3, 10, 10);
    }

    private static void gripAfterEachFiveDays() {
        Doc.says("Terms", "1 more for each 5 days without frost that have passed since the last stone was set");
        gripOn(3, 10, 14);
        gripOn(4, 10, 15);
        gripOn(4, 10, 19);
        gripOn(5, 10, 20);
        gripOn(5, 10, 24);
        gripOn(6, 10, 25);
        gripOn(6, 10, 29);
        gripOn(7, 10, 30);
        gripOn(7, 10, 34);
    }

    private static void gripAtMost8() {
        Doc.says("Terms", "at most 8");
        gripOn(8, 10, 35);
        gripOn(8, 10, 39);
        gripOn(8, 10, 40);
        gripOn(8, 10, 45);
        gripOn(8, 10, 1000);
    }

    private static void gripCountsTheDayOfSetting() {
        Doc.says("Terms", "the day of setting counted when it is over");
        // of the days 89, 120, 121, 122 and 123 the first is the day of setting
        gripOn(3, 89, 123);
        gripOn(4, 89, 124);
        // the day of setting has frost
        gripOn(3, 90, 124);
        gripOn(4, 90, 125);
    }

    private static void gripInFrost() {
        Doc.says("Terms", "the last 30 have frost, in which nothing is cut, and mortar does not set");
        gripOn(3, 85, 89);
        gripOn(4, 85, 90);
        gripOn(4, 85, 119);
        gripOn(3, 86, 90);
        gripOn(3, 86, 119);
        gripOn(3, 86, 120);
        gripOn(4, 86, 121);
        gripOn(3, 100, 119);
    }

    private static void gripOverTheEndOfTheYear() {
        Doc.says("Terms", "A year has 120 days");
        gripOn(3, 119, 124);
        gripOn(4, 119, 125);
        gripOn(3, 120, 124);
        gripOn(4, 120, 125);
        // 20 days ahead of the frost and 5 behind it
        gripOn(7, 70, 90);
        gripOn(7, 70, 124);
        gripOn(8, 70, 125);
    }

    private static void gripInTheSecondYear() {
        Doc.says("Terms", "A year has 120 days; the last 30 have frost");
        gripOn(3, 206, 210);
        gripOn(3, 206, 240);
        gripOn(4, 206, 241);
        gripOn(4, 205, 210);
        gripOn(4, 205, 244);
        gripOn(5, 205, 245);
    }

    private static void gripWithoutAllStones() {
        Doc.says("Terms", "0 such days count as long as not all stones are set");
        VoussoirYard none = Arches.filledBeam(2, 0);
        passDays(none, 50);
        Due.is(3, "none is set", none::grip);
        VoussoirYard one = Arches.filledBeam(2, 1);
        passDays(one, 50);
        Due.is(3, "one of two is set", one::grip);
        VoussoirYard six = Arches.filledBeam(5, 4);
        passDays(six, 50);
        Due.is(3, "four of five are set", six::grip);
        six.set(4, 4);
        Due.is(3, "the last is set today", six::grip);
        six.pass(5);
        Due.is(4, "5 days later", six::grip);
    }

    private static void gripSinceTheLastStone() {
        Doc.says("Terms", "since the last stone was set");
        VoussoirYard yard = Arches.filledBeam(2, 1);
        yard.pass(4);
        yard.set(1, 1);
        yard.pass(4);
        Due.is(3, "8 days since the first, 4 since the last", yard::grip);
        yard.pass(1);
        Due.is(4, "5 since the last", yard::grip);
    }

    private static void gripWithSpareStones() {
        Doc.says("Terms", "as long as not all stones are set");
        VoussoirYard yard = Arches.quarriedBeam(2, 99);
        for (int stone = 0; stone < 3; stone++) {
            yard.cut(0, 0, 0);
        }
        yard.pass(3);
        yard.setCentre(99999);
        yard.set(0, 0);
        yard.set(1, 1);
        yard.pass(5);
        Due.is(4, "all places are filled, a third stone lies in the yard", yard::grip);
    }

    private static void gripOfNoPlaceAndOfOne() {
        Doc.says("Promise 11", "Returns the grip of the mortar.");
        VoussoirYard none = new VoussoirYard();
        none.pass(50);
        Due.is(3, "no place", none::grip);
        VoussoirYard one = Arches.filledBeam(1, 1);
        one.pass(5);
        Due.is(4, "one place, filled", one::grip);
    }

    private static void gripAfterAFall() {
        Doc.says("Promise 11", "Returns the grip.");
        VoussoirYard arch = Arches.standing();
        Due.is(8, "it stands", arch::grip);
        arch.load(1, 20000);
        Due.is(3, "it fell", arch::grip);
        arch.pass(50);
        Due.is(3, "50 days later", arch::grip);
        VoussoirYard again = Arches.fallen();
        again.setCentre(99999);
        for (int place = 0; place < 4; place++) {
            again.set(4 + place, place);
        }
        Due.is(3, "set again today", again::grip);
        again.pass(5);
        Due.is(4, "5 days later", again::grip);
    }
}
