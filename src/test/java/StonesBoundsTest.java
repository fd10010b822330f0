import java.util.NoSuchElementException;

/** The boundary cases of promises 18 to 28 and 33, and of the terms Stones and Standing: a test for each sentence. */
public final class StonesBoundsTest {
    private static final Class<IndexOutOfBoundsException> NO_SUCH = IndexOutOfBoundsException.class;
    private static final Class<IllegalArgumentException> WRONG = IllegalArgumentException.class;
    private static final Class<UnsupportedOperationException> NOT_NOW = UnsupportedOperationException.class;
    private static final Class<IllegalStateException> UNSAFE = IllegalStateException.class;
    private static final Class<NoSuchElementException> NOTHING = NoSuchElementException.class;
    private static final int LEAST = Integer.MIN_VALUE;
    private static final int MOST = Integer.MAX_VALUE;
    /** Not the numbers of two stones, and with 40 and more not of any. */
    private static final int[] NOT_OF_TWO = {-1, 2, 39, 40, LEAST, MOST};
    /** Not the numbers of three places, and with 7 and more not of any. */
    private static final int[] NOT_OF_THREE = {-1, 3, 7, 8, LEAST, MOST};

    public static void main(String[] args) {
        noSuchStoneForStateOf();
        stateWhileCut();
        stateBeforeTheWorkBegins();
        stateOnceSet();
        stateOnceBroken();
        noSuchStoneForMark();
        lengthOfMark();
        noSuchStoneForMarkAt();
        noSuchSignOfMark();
        lettersOfMasons();
        placesInMarks();
        stonesToldAhead();
        noSuchStoneForFits();
        noSuchPlaceForFits();
        eachCornerMustFit();
        stoneKeepsItsDrawing();
        fitsWhereverItIs();
        strengthOfCentre();
        weightOfAllPlaces();
        secondCentre();
        centreUnderStandingArch();
        noSuchStoneForSet();
        noSuchPlaceForSet();
        setWhatDoesNotFit();
        setWhileCut();
        setOnTheDayItIsReady();
        setWhatIsSet();
        setWhatIsBroken();
        setIntoFilledPlace();
        setIntoMiddlePlaces();
        setIntoTheOnlyPlace();
        setWithoutCentre();
        setOnJustStrongCentre();
        setOnTooWeakCentre();
        filledPlacesOfSet();
        noSuchPlaceForStoneIn();
        stoneInEmptyPlace();
        strikeWithoutCentre();
        strikeWithEmptyPlace();
        strikeOnePlace();
        strikeNoPlace();
        strikeWithTooLittleGrip();
        strikeWhatIsNeverSafe();
        strikeRoundsUp();
        noSuchPlaceForLoad();
        loadIsOutOfRange();
        loadWhatDoesNotStand();
        loadInPlaceOfTheOther();
        loadThatIsJustBorne();
        loadWithTheGripThatItHas();
        loadTakenAwayThatHeldTheArch();
        fallBreaksSetStones();
        fallEmptiesPlaces();
        fallLeavesNoCentre();
        fallTakesAllLoads();
        standsAgain();
        standsFromTheStrikeToTheFall();
        daysOutOfRange();
        daysPassed();
        soundDrawings();
        soundWithStones();
        soundWhileItStands();
        Due.end();
    }

    // ---- promise 18

    private static void noSuchStoneForStateOf() {
        Doc.says("Promise 18", "Throws `IndexOutOfBoundsException` if there is no such stone");
        Due.fails(NO_SUCH, "0 of none", () -> new VoussoirYard().stateOf(0));
        VoussoirYard yard = Arches.readyBeam(2, 9);
        for (int stone : NOT_OF_TWO) {
            Due.fails(NO_SUCH, stone + " of 2", () -> yard.stateOf(stone));
        }
        Due.is('y', "the first", () -> yard.stateOf(0));
        Due.is('y', "the last", () -> yard.stateOf(1));
    }

    private static void stateWhileCut() {
        Doc.says("Promise 18", "Returns 'c' it is being cut, 'y' in the yard, 's' set, 'b' broken.");
        VoussoirYard yard = Arches.quarriedBeam(1, 16);
        yard.cut(0, 0, 0);
        Due.is('c', "today", () -> yard.stateOf(0));
        yard.pass(1);
        Due.is('c', "a day ahead of the one on which it is ready", () -> yard.stateOf(0));
        yard.pass(1);
        Due.is('y', "on the day on which it is ready", () -> yard.stateOf(0));
        yard.pass(99);
        Due.is('y', "long behind it", () -> yard.stateOf(0));
    }

    private static void stateBeforeTheWorkBegins() {
        Doc.says("Promise 18", "'c' it is being cut");
        VoussoirYard yard = Arches.quarriedBeam(1, 16);
        yard.cut(0, 0, 0);
        yard.cut(0, 0, 0);
        Due.is('c', "the mason is still at the one ahead", () -> yard.stateOf(1));
        VoussoirYard cold = Arches.quarriedBeam(1, 99);
        cold.pass(90);
        cold.cut(0, 0, 0);
        cold.pass(30);
        Due.is('c', "the frost is over, the work begins", () -> cold.stateOf(0));
        cold.pass(1);
        Due.is('y', "the work is over", () -> cold.stateOf(0));
    }

    private static void stateOnceSet() {
        Doc.says("Promise 18", "'s' set");
        VoussoirYard yard = Arches.filledBeam(2, 2);
        Due.is('s', "on the centre", () -> yard.stateOf(1));
        yard.strike();
        Due.is('s', "without the centre", () -> yard.stateOf(1));
    }

    private static void stateOnceBroken() {
        Doc.says("Promise 18", "'b' broken");
        VoussoirYard yard = Arches.fallen();
        Due.is('b', "it fell", () -> yard.stateOf(0));
        yard.pass(99);
        Due.is('b', "long ago", () -> yard.stateOf(3));
        Due.is('y', "what was not set is whole", () -> yard.stateOf(4));
    }

    // ---- promises 19 and 20

    private static String textOf(VoussoirYard yard, int stone) {
        StringBuilder text = new StringBuilder();
        for (int index = 0; index < yard.mark(stone); index++) {
            text.append(yard.markAt(stone, index));
        }
        return text.toString();
    }

    private static void noSuchStoneForMark() {
        Doc.says("Promise 19", "Throws `IndexOutOfBoundsException` if there is no such stone");
        Due.fails(NO_SUCH, "0 of none", () -> new VoussoirYard().mark(0));
        VoussoirYard yard = Arches.readyBeam(2, 9);
        for (int stone : NOT_OF_TWO) {
            Due.fails(NO_SUCH, stone + " of 2", () -> yard.mark(stone));
        }
        Due.is(6, "the first", () -> yard.mark(0));
        Due.is(6, "the last", () -> yard.mark(1));
    }

    private static void lengthOfMark() {
        Doc.says("Promise 19", "Returns the length of the mark of a stone.");
        VoussoirYard yard = Arches.quarriedBeam(1, 99);
        for (int version = 3; version <= 9; version++) {
            yard.moveJoint(0, 0, 0, 0, 4);
        }
        yard.cut(0, 0, 0);
        yard.moveJoint(0, 0, 0, 0, 4);
        yard.cut(0, 0, 0);
        Due.is("A0v9-0", "the version 9", () -> textOf(yard, 0));
        Due.is("A0v10-1", "the version 10", () -> textOf(yard, 1));
        Due.is(6, "the length with the version 9", () -> yard.mark(0));
        Due.is(7, "the length with the version 10", () -> yard.mark(1));
        for (int version = 11; version <= 99; version++) {
            yard.moveJoint(0, 0, 0, 0, 4);
        }
        yard.cut(0, 0, 0);
        yard.moveJoint(0, 0, 0, 0, 4);
        yard.cut(0, 0, 0);
        Due.is("A0v99-2", "the version 99", () -> textOf(yard, 2));
        Due.is("A0v100-3", "the version 100", () -> textOf(yard, 3));
    }

    private static void noSuchStoneForMarkAt() {
        Doc.says("Promise 20", "Throws `IndexOutOfBoundsException` if there is no such stone");
        Due.fails(NO_SUCH, "0 of none", () -> new VoussoirYard().markAt(0, 0));
        VoussoirYard yard = Arches.readyBeam(2, 9);
        for (int stone : NOT_OF_TWO) {
            Due.fails(NO_SUCH, stone + " of 2", () -> yard.markAt(stone, 0));
        }
        Due.is('0', "the told number of the first", () -> yard.markAt(0, 5));
        Due.is('1', "the told number of the last", () -> yard.markAt(1, 5));
    }

    private static void noSuchSignOfMark() {
        Doc.says("Promise 20", "or no sign there");
        Doc.says("Promise 20", "its place, from 0");
        VoussoirYard yard = Arches.readyBeam(2, 9);
        for (int index : new int[] {-1, 6, 7, LEAST, MOST}) {
            Due.fails(NO_SUCH, index + " of 6", () -> yard.markAt(0, index));
        }
        Due.is('A', "the first sign", () -> yard.markAt(0, 0));
        Due.is('0', "the last sign", () -> yard.markAt(0, 5));
    }

    private static void lettersOfMasons() {
        Doc.says("Terms", "the letter of its mason, A to D");
        VoussoirYard yard = Arches.quarriedBeam(1, 99);
        for (int mason = 1; mason < 4; mason++) {
            yard.addMason(99, 0);
        }
        for (int mason = 0; mason < 4; mason++) {
            int told = mason;
            yard.cut(0, 0, mason);
            Due.is("ABCD".charAt(mason), "of the mason " + mason, () -> yard.markAt(told, 0));
        }
    }

    private static void placesInMarks() {
        Doc.says("Terms", "the place, for which it was cut, \"v\" and the version");
        VoussoirYard yard = Arches.beam(7, 2);
        yard.addBlocks(2, 2, 99, 0, true);
        yard.addMason(99, 0);
        for (int place = 0; place < 7; place++) {
            int stone = place;
            yard.cut(place, 0, 0);
            Due.is("A" + place + "v8-" + place, "of the place " + place, () -> textOf(yard, stone));
        }
        yard.pass(7);
        yard.setCentre(99);
        yard.set(6, 0);
        Due.is("A6v8-6", "it keeps it where it is set", () -> textOf(yard, 6));
    }

    private static void stonesToldAhead() {
        Doc.says("Terms", "and \"-\" and how many stones were told to this mason ahead of it");
        VoussoirYard yard = Arches.quarriedBeam(1, 99);
        yard.addMason(99, 0);
        yard.addBlocks(3, 3, 1, 0, true);
        Due.fails(NOT_NOW, "a stone that is refused is not told", () -> yard.cut(0, 1, 0));
        for (int stone = 0; stone < 11; stone++) {
            yard.cut(0, 0, 0);
        }
        yard.cut(0, 0, 1);
        Due.is("A0v2-0", "none ahead", () -> textOf(yard, 0));
        Due.is("A0v2-9", "9 ahead", () -> textOf(yard, 9));
        Due.is("A0v2-10", "10 ahead", () -> textOf(yard, 10));
        Due.is("B0v2-0", "none ahead of the other mason's", () -> textOf(yard, 11));
        for (int stone = 12; stone < 40; stone++) {
            yard.cut(0, 0, 0);
        }
        Due.is("A0v2-38", "38 ahead", () -> textOf(yard, 39));
    }

    // ---- promise 21

    private static void noSuchStoneForFits() {
        Doc.says("Promise 21", "Throws `IndexOutOfBoundsException` if there is no such stone or place");
        Due.fails(NO_SUCH, "0 of none", () -> Arches.beam(1, 4).fits(0, 0));
        VoussoirYard yard = Arches.readyBeam(2, 9);
        for (int stone : NOT_OF_TWO) {
            Due.fails(NO_SUCH, stone + " of 2", () -> yard.fits(stone, 0));
        }
        Due.is(true, "the first", () -> yard.fits(0, 0));
        Due.is(true, "the last", () -> yard.fits(1, 0));
    }

    private static void noSuchPlaceForFits() {
        Doc.says("Promise 21", "no such stone or place");
        VoussoirYard yard = Arches.readyBeam(3, 9);
        for (int place : NOT_OF_THREE) {
            Due.fails(NO_SUCH, place + " of 3", () -> yard.fits(0, place));
        }
        Due.is(true, "the first", () -> yard.fits(0, 0));
        Due.is(true, "the last", () -> yard.fits(0, 2));
    }

    /** Two places of the same shape; then one corner of the right joint, or of the left one, is moved by one step. */
    private static void eachCornerMustFit() {
        Doc.says("Terms", "It can be set into any place whose corners, seen from the first one, are just these");
        int[][] ends = {{11, 4, 11, 8}, {9, 4, 10, 8}, {10, 5, 10, 8}, {10, 3, 10, 8}, {10, 4, 11, 8}, {10, 4, 9, 8},
            {10, 4, 10, 9}, {10, 4, 10, 7}};
        VoussoirYard yard = Arches.drawn(new int[][] {{0, 4, 0, 8}, {5, 4, 5, 8}, {10, 4, 10, 8}});
        yard.addBlocks(20, 20, 9, 0, true);
        yard.addMason(99, 0);
        yard.cut(0, 0, 0);
        Due.is(true, "all corners alike", () -> yard.fits(0, 1));
        for (int[] end : ends) {
            yard.moveJoint(2, end[0], end[1], end[2], end[3]);
            Due.is(false, "another right joint", () -> yard.fits(0, 1));
            Due.is(true, "the place for which it was cut", () -> yard.fits(0, 0));
        }
        VoussoirYard left = Arches.drawn(new int[][] {{1, 4, 1, 8}, {5, 4, 5, 8}});
        left.addBlocks(20, 20, 9, 0, true);
        left.addMason(99, 0);
        left.cut(0, 0, 0);
        int[][] begins = {{0, 4, 1, 8}, {2, 4, 1, 8}, {1, 5, 1, 8}, {1, 3, 1, 8}, {1, 4, 0, 8}, {1, 4, 2, 8},
            {1, 4, 1, 9}, {1, 4, 1, 7}};
        for (int[] begin : begins) {
            left.moveJoint(0, begin[0], begin[1], begin[2], begin[3]);
            Due.is(false, "another left joint", () -> left.fits(0, 0));
        }
        left.moveJoint(0, 1, 4, 1, 8);
        Due.is(true, "as it was cut", () -> left.fits(0, 0));
    }

    private static void stoneKeepsItsDrawing() {
        Doc.says("Terms", "A drawing has versions, and a stone is cut by one of them.");
        Doc.says("Terms", "A stone is cut for a place, by the drawing as it is then, which it keeps");
        VoussoirYard yard = Arches.readyBeam(2, 99999);
        yard.moveJoint(2, 9, 0, 9, 4);
        Due.is(false, "the place has been moved", () -> yard.fits(1, 1));
        Due.fails(WRONG, "it cannot be set", () -> yard.set(1, 1));
        yard.addBlocks(5, 4, 1, 0, true);
        yard.cut(1, 1, 0);
        yard.moveJoint(2, 8, 0, 8, 4);
        Due.is(true, "the place has been moved back, at a later version", () -> yard.fits(1, 1));
        Due.is(false, "what was cut between", () -> yard.fits(2, 1));
        Due.is(1, "it can be set", () -> yard.set(1, 1));
    }

    private static void fitsWhereverItIs() {
        Doc.says("Promise 21", "Returns whether a stone fits into a place, as the drawing is.");
        VoussoirYard yard = Arches.quarriedBeam(2, 1);
        yard.cut(0, 0, 0);
        Due.is(true, "while it is being cut", () -> yard.fits(0, 1));
        VoussoirYard filled = Arches.filledBeam(2, 2);
        Due.is(true, "set, where it is", () -> filled.fits(0, 0));
        Due.is(true, "set, where another is", () -> filled.fits(0, 1));
        Due.is(true, "broken", () -> Arches.fallen().fits(0, 0));
        Due.is(false, "broken, into another place", () -> Arches.fallen().fits(0, 1));
    }

    // ---- promise 22

    private static void strengthOfCentre() {
        Doc.says("Promise 22", "the weight that it bears, 1 to 99999");
        Doc.says("Promise 22", "Throws `IllegalArgumentException` if it is out of range");
        for (int strength : new int[] {0, 100000, -1, LEAST, MOST}) {
            Due.fails(WRONG, "" + strength, () -> new VoussoirYard().setCentre(strength));
        }
        Due.is(0, "1", () -> new VoussoirYard().setCentre(1));
        Due.is(0, "99999", () -> new VoussoirYard().setCentre(99999));
    }

    private static void weightOfAllPlaces() {
        Doc.says("Promise 22", "Returns the weight of all places.");
        Due.is(0, "no joint", () -> new VoussoirYard().setCentre(5));
        Due.is(0, "no place", () -> Arches.beam(0, 4).setCentre(5));
        Due.is(96, "one place", () -> Arches.beam(1, 4).setCentre(5));
        Due.is(7 * 24, "seven places", () -> Arches.beam(7, 2).setCentre(5));
        VoussoirYard heavy = Arches.beam(2, 4);
        heavy.setDensity(3);
        Due.is(576, "at the density 3", () -> heavy.setCentre(5));
    }

    private static void secondCentre() {
        Doc.says("Promise 22", "Throws `UnsupportedOperationException` if there is one");
        VoussoirYard yard = Arches.readyBeam(2, 100);
        Due.fails(NOT_NOW, "no stone rests on it", () -> yard.setCentre(99999));
        yard.set(0, 0);
        Due.fails(NOT_NOW, "a stone rests on it", () -> yard.setCentre(99999));
        Due.fails(NOT_NOW, "it is no stronger than it was", () -> yard.set(1, 1));
        Due.fails(NOT_NOW, "all stones rest on it", () -> Arches.filledBeam(2, 2).setCentre(99999));
    }

    private static void centreUnderStandingArch() {
        Doc.says("Promise 22", "or the arch stands");
        VoussoirYard yard = Arches.filledBeam(2, 2);
        yard.strike();
        Due.fails(NOT_NOW, "it stands, without a centre", () -> yard.setCentre(99999));
        VoussoirYard fallen = Arches.fallen();
        int weight = fallen.weight(0) + fallen.weight(1) + fallen.weight(2) + fallen.weight(3);
        Due.is(weight, "it fell", () -> fallen.setCentre(99999));
    }

    // ---- promise 23

    private static void noSuchStoneForSet() {
        Doc.says("Promise 23", "Throws `IndexOutOfBoundsException` if there is no such stone or place");
        Due.fails(NO_SUCH, "0 of none", () -> Arches.beam(2, 4).set(0, 0));
        VoussoirYard yard = Arches.readyBeam(2, 99999);
        for (int stone : NOT_OF_TWO) {
            Due.fails(NO_SUCH, stone + " of 2", () -> yard.set(stone, 0));
        }
        Due.is(1, "the last", () -> yard.set(1, 0));
        Due.is(2, "the first", () -> yard.set(0, 1));
    }

    private static void noSuchPlaceForSet() {
        Doc.says("Promise 23", "no such stone or place");
        VoussoirYard yard = Arches.readyBeam(3, 99999);
        for (int place : NOT_OF_THREE) {
            Due.fails(NO_SUCH, place + " of 3", () -> yard.set(0, place));
        }
        Due.is(1, "the last", () -> yard.set(0, 2));
        Due.is(2, "the first", () -> yard.set(1, 0));
    }

    private static void setWhatDoesNotFit() {
        Doc.says("Promise 23", "Throws `IllegalArgumentException` if it does not fit");
        VoussoirYard yard = Arches.readyBeam(2, 99999);
        yard.moveJoint(2, 8, 0, 8, 5);
        Due.fails(WRONG, "one step off", () -> yard.set(0, 1));
        Due.is(1, "where it fits", () -> yard.set(0, 0));
    }

    private static void setWhileCut() {
        Doc.says("Promise 23", "Throws `UnsupportedOperationException` if the stone is not in the yard");
        VoussoirYard yard = Arches.quarriedBeam(2, 16);
        yard.cut(0, 0, 0);
        yard.setCentre(99999);
        Due.fails(NOT_NOW, "on the first day of the work", () -> yard.set(0, 0));
        yard.pass(1);
        Due.fails(NOT_NOW, "on the last day of the work", () -> yard.set(0, 0));
        yard.pass(1);
        Due.is(1, "behind it", () -> yard.set(0, 0));
    }

    private static void setOnTheDayItIsReady() {
        Doc.says("Terms", "on a day from that on on which it is ready");
        VoussoirYard yard = Arches.quarriedBeam(2, 99);
        yard.cut(0, 0, 0);
        yard.cut(0, 0, 0);
        yard.setCentre(99999);
        yard.pass(1);
        Due.is(1, "on that day", () -> yard.set(0, 0));
        Due.fails(NOT_NOW, "the next stone, a day ahead of that day", () -> yard.set(1, 1));
        yard.pass(99);
        Due.is(2, "99 days later, in the frost", () -> yard.set(1, 1));
    }

    private static void setWhatIsSet() {
        Doc.says("Promise 23", "the stone is not in the yard");
        VoussoirYard yard = Arches.filledBeam(3, 1);
        Due.fails(NOT_NOW, "into another place", () -> yard.set(0, 1));
        Due.fails(NOT_NOW, "into the place where it is", () -> yard.set(0, 0));
        Due.fails(NOTHING, "the other place stays empty", () -> yard.stoneIn(1));
    }

    private static void setWhatIsBroken() {
        Doc.says("Promise 23", "the stone is not in the yard");
        VoussoirYard yard = Arches.fallen();
        yard.setCentre(99999);
        Due.fails(NOT_NOW, "a broken one", () -> yard.set(0, 0));
        Due.is(1, "a whole one", () -> yard.set(4, 0));
    }

    private static void setIntoFilledPlace() {
        Doc.says("Promise 23", "the place is filled, or cannot be filled");
        VoussoirYard yard = Arches.filledBeam(3, 1);
        Due.fails(NOT_NOW, "the first place", () -> yard.set(1, 0));
        Due.is(0, "it keeps its stone", () -> yard.stoneIn(0));
        Due.is('y', "the other stone stays in the yard", () -> yard.stateOf(1));
    }

    private static void setIntoMiddlePlaces() {
        Doc.says("Terms", "A place can be filled if it is the first or the last one, or one beside it is filled.");
        for (int place = 0; place < 5; place++) {
            boolean isAtAnEnd = place == 0 || place == 4;
            int at = place;
            VoussoirYard yard = Arches.readyBeam(5, 99999);
            if (isAtAnEnd) {
                Due.is(1, "at an end, " + place, () -> yard.set(0, at));
            } else {
                Due.fails(NOT_NOW, "in the middle, " + place, () -> yard.set(0, at));
            }
        }
        VoussoirYard fromLeft = Arches.filledBeam(5, 1);
        Due.fails(NOT_NOW, "two to the right of a stone", () -> fromLeft.set(1, 2));
        Due.is(2, "beside it, to the right", () -> fromLeft.set(1, 1));
        VoussoirYard fromRight = Arches.readyBeam(5, 99999);
        fromRight.set(0, 4);
        Due.fails(NOT_NOW, "two to the left of a stone", () -> fromRight.set(1, 2));
        Due.is(2, "beside it, to the left", () -> fromRight.set(1, 3));
        Due.is(3, "next to that", () -> fromRight.set(2, 2));
    }

    private static void setIntoTheOnlyPlace() {
        Doc.says("Terms", "if it is the first or the last one");
        VoussoirYard yard = Arches.readyBeam(1, 99999);
        Due.is(1, "the first and the last one at once", () -> yard.set(0, 0));
    }

    private static void setWithoutCentre() {
        Doc.says("Promise 23", "there is no centre");
        Doc.says("Terms", "All stones that are set rest on the centre, which must be there");
        VoussoirYard yard = Arches.quarriedBeam(2, 99);
        yard.cut(0, 0, 0);
        yard.pass(1);
        Due.fails(NOT_NOW, "there never was one", () -> yard.set(0, 0));
        yard.setCentre(96);
        Due.is(1, "now there is one", () -> yard.set(0, 0));
        Due.fails(NOT_NOW, "it fell", () -> Arches.fallen().set(4, 0));
    }

    private static void setOnJustStrongCentre() {
        Doc.says("Terms", "and bear their weights, until it is struck");
        VoussoirYard yard = Arches.readyBeam(3, 288);
        Due.is(1, "96 of 288", () -> yard.set(0, 0));
        Due.is(2, "192 of 288", () -> yard.set(1, 2));
        Due.is(3, "288 of 288", () -> yard.set(2, 1));
        VoussoirYard heavy = Arches.readyBeam(3, 576);
        heavy.setDensity(3);
        heavy.set(0, 0);
        Due.is(2, "576 of 576, at the density 3", () -> heavy.set(1, 1));
        Due.fails(NOT_NOW, "864 of 576, at the density 3", () -> heavy.set(2, 2));
    }

    private static void setOnTooWeakCentre() {
        Doc.says("Promise 23", "or it would not bear the weight");
        VoussoirYard yard = Arches.readyBeam(3, 287);
        yard.set(0, 0);
        yard.set(1, 1);
        Due.fails(NOT_NOW, "288 of 287", () -> yard.set(2, 2));
        Due.is('y', "the stone stays in the yard", () -> yard.stateOf(2));
        Due.fails(NOT_NOW, "96 of 95", () -> Arches.readyBeam(3, 95).set(0, 0));
        Due.is(1, "96 of 96", () -> Arches.readyBeam(3, 96).set(0, 0));
        Due.fails(NOT_NOW, "96 of 1", () -> Arches.readyBeam(3, 1).set(0, 0));
    }

    private static void filledPlacesOfSet() {
        Doc.says("Promise 23", "Returns how many places are filled.");
        VoussoirYard yard = Arches.beam(7, 2);
        yard.addBlocks(2, 2, 99, 0, true);
        yard.addMason(99, 0);
        for (int stone = 0; stone < 7; stone++) {
            yard.cut(0, 0, 0);
        }
        yard.pass(7);
        yard.setCentre(99999);
        int[] order = {6, 0, 5, 1, 4, 2, 3};
        for (int stone = 0; stone < 7; stone++) {
            int number = stone;
            Due.is(number + 1, "the place " + order[number], () -> yard.set(number, order[number]));
        }
    }

    // ---- promise 24

    private static void noSuchPlaceForStoneIn() {
        Doc.says("Promise 24", "Throws `IndexOutOfBoundsException` if there is no such place");
        VoussoirYard yard = Arches.filledBeam(3, 3);
        for (int place : NOT_OF_THREE) {
            Due.fails(NO_SUCH, place + " of 3", () -> yard.stoneIn(place));
        }
        Due.is(0, "the first", () -> yard.stoneIn(0));
        Due.is(2, "the last", () -> yard.stoneIn(2));
        Due.fails(NO_SUCH, "0 without joints", () -> new VoussoirYard().stoneIn(0));
        Due.fails(NO_SUCH, "0 with one joint", () -> Arches.beam(0, 4).stoneIn(0));
    }

    private static void stoneInEmptyPlace() {
        Doc.says("Promise 24", "Throws `NoSuchElementException` if it is empty");
        Due.fails(NOTHING, "no stone is cut", () -> Arches.beam(1, 4).stoneIn(0));
        VoussoirYard yard = Arches.readyBeam(2, 99999);
        Due.fails(NOTHING, "no stone is set", () -> yard.stoneIn(0));
        yard.set(1, 0);
        Due.is(1, "filled", () -> yard.stoneIn(0));
        Due.fails(NOTHING, "beside the filled one", () -> yard.stoneIn(1));
        Due.fails(NOTHING, "it fell", () -> Arches.fallen().stoneIn(0));
    }

    // ---- promise 25

    private static void strikeWithoutCentre() {
        Doc.says("Promise 25", "Throws `UnsupportedOperationException` if there is no centre");
        Due.fails(NOT_NOW, "a new yard", () -> new VoussoirYard().strike());
        VoussoirYard yard = Arches.filledBeam(2, 2);
        yard.strike();
        Due.fails(NOT_NOW, "it is struck", yard::strike);
        Due.is(true, "the arch goes on to stand", yard::stands);
        Due.fails(NOT_NOW, "it fell", () -> Arches.fallen().strike());
    }

    private static void strikeWithEmptyPlace() {
        Doc.says("Promise 25", "not all places are filled");
        for (int filled = 0; filled < 3; filled++) {
            int some = filled;
            Due.fails(NOT_NOW, some + " of 3", () -> Arches.filledBeam(3, some).strike());
        }
        // 288 in all, half of it upwards at each end: 144 are 3 tenths of 480
        Due.is(480L, "3 of 3", () -> Arches.filledBeam(3, 3).strike());
    }

    private static void strikeOnePlace() {
        Doc.says("Promise 25", "or there are less than 2");
        Doc.says("Terms", "The centre can be struck when all places are filled, and there are two or more");
        VoussoirYard one = Arches.filledBeam(1, 1);
        Due.fails(NOT_NOW, "1 place, filled", one::strike);
        Due.is(false, "it does not stand", one::stands);
        Due.fails(NOT_NOW, "the centre is still there", () -> one.setCentre(5));
        Due.is(320L, "2 places", () -> Arches.filledBeam(2, 2).strike());
    }

    private static void strikeNoPlace() {
        Doc.says("Promise 25", "or there are less than 2");
        VoussoirYard none = new VoussoirYard();
        none.setCentre(5);
        Due.fails(NOT_NOW, "no joint", none::strike);
        none.drawJoint(0, 0, 0, 4);
        Due.fails(NOT_NOW, "no place", none::strike);
    }

    /** An arch whose stones are all set today on a centre: each is cut for its place. */
    private static VoussoirYard setToday(int[][] joints) {
        VoussoirYard yard = Arches.drawn(joints);
        yard.addBlocks(20, 20, 99, 0, true);
        yard.addMason(99, 0);
        for (int place = 0; place < yard.places(); place++) {
            yard.cut(place, 0, 0);
        }
        yard.pass(40);
        yard.setCentre(99999);
        for (int place = 0; place < yard.places(); place++) {
            yard.set(place, place);
        }
        return yard;
    }

    /** With the thrust 36 alone; its stones are all set today. */
    private static VoussoirYard justSafeAtTheGrip5() {
        return setToday(new int[][] {{6, 1, 4, 1}, {7, 3, 5, 4}, {8, 4, 8, 6}, {11, 4, 11, 6}, {13, 3, 14, 4},
            {14, 1, 16, 1}});
    }

    private static void strikeWithTooLittleGrip() {
        Doc.says("Promise 25", "Throws `IllegalStateException` if the arch is not safe with the grip that it has");
        VoussoirYard yard = justSafeAtTheGrip5();
        Due.fails(UNSAFE, "the grip 3", yard::strike);
        yard.pass(9);
        Due.fails(UNSAFE, "the grip 4", yard::strike);
        Due.is(false, "it does not stand", yard::stands);
        Due.is('s', "its stones are set", () -> yard.stateOf(4));
        yard.pass(1);
        Due.is(36L, "the grip 5", yard::strike);
        Due.is(true, "it stands", yard::stands);
    }

    private static void strikeWhatIsNeverSafe() {
        Doc.says("Terms", "and the arch is safe. Then it stands.");
        // a slope of 9 tenths: the grip comes to 8 at most
        VoussoirYard yard = setToday(new int[][] {{10, 9, 0, 0}, {10, 12, 0, 12}, {10, 16, 0, 16}});
        for (int call = 0; call < 5; call++) {
            Due.fails(UNSAFE, "the grip that it has", yard::strike);
            yard.pass(99);
        }
        Due.is(8, "the greatest grip", yard::grip);
        Due.is(true, "not the one that it wants", () -> yard.isSafe(9));
        VoussoirYard eight = setToday(new int[][] {{10, 8, 0, 0}, {10, 12, 0, 12}, {10, 16, 0, 16}});
        eight.pass(99);
        Due.is(0L, "a slope of 8 tenths", eight::strike);
    }

    private static void strikeRoundsUp() {
        Doc.says("Promise 25", "Returns the least thrust, rounded up.");
        VoussoirYard seven = Arches.filledBeam(2, 2);
        seven.pass(20);
        Due.is(138L, "960 / 7 is 137 and a seventh", seven::strike);
        VoussoirYard eight = Arches.filledBeam(2, 2);
        eight.pass(25);
        Due.is(120L, "960 / 8 is whole", eight::strike);
    }

    // ---- promise 26

    private static void noSuchPlaceForLoad() {
        Doc.says("Promise 26", "Throws `IndexOutOfBoundsException` if there is no such place");
        VoussoirYard yard = Arches.filledBeam(3, 3);
        yard.strike();
        for (int place : NOT_OF_THREE) {
            Due.fails(NO_SUCH, place + " of 3", () -> yard.load(place, 5));
        }
        Due.is(true, "the first", () -> yard.load(0, 5));
        Due.is(true, "the last", () -> yard.load(2, 5));
    }

    private static void loadIsOutOfRange() {
        Doc.says("Promise 26", "the load, 0 to 20000");
        Doc.says("Promise 26", "Throws `IllegalArgumentException` if it is out of range");
        VoussoirYard yard = Arches.filledBeam(2, 2);
        yard.strike();
        for (int load : new int[] {-1, 20001, LEAST, MOST}) {
            Due.fails(WRONG, "" + load, () -> yard.load(1, load));
        }
        Due.is(true, "it goes on to stand", yard::stands);
        Due.is(true, "20000", () -> yard.load(1, 20000));
        Due.is(true, "0", () -> yard.load(1, 0));
    }

    private static void loadWhatDoesNotStand() {
        Doc.says("Promise 26", "Throws `UnsupportedOperationException` if the arch does not stand");
        Due.fails(NOT_NOW, "nothing is set", () -> Arches.beam(2, 4).load(0, 5));
        Due.fails(NOT_NOW, "on the centre", () -> Arches.filledBeam(2, 2).load(0, 5));
        Due.fails(NOT_NOW, "also the load 0", () -> Arches.filledBeam(2, 2).load(0, 0));
        Due.fails(NOT_NOW, "it fell", () -> Arches.fallen().load(0, 5));
    }

    private static void loadInPlaceOfTheOther() {
        Doc.says("Promise 26", "in place of the one that it has");
        VoussoirYard arch = Arches.standing();
        Due.is(true, "the greatest", () -> arch.load(1, 1015));
        Due.is(true, "the greatest again", () -> arch.load(1, 1015));
        Due.is(true, "none", () -> arch.load(1, 0));
        Due.is(1015, "it bears what it bore", () -> arch.bears(1, 8));
    }

    private static void loadThatIsJustBorne() {
        Doc.says("Terms", "if it is not safe with one, it falls");
        Doc.says("Promise 26", "Returns whether the arch stands.");
        VoussoirYard arch = Arches.standing();
        int most = arch.bears(2, 8);
        Due.is(true, "just borne", () -> arch.load(2, most));
        Due.is(true, "it stands", arch::stands);
        Due.is(false, "one more", () -> arch.load(2, most + 1));
        Due.is(false, "it does not stand", arch::stands);
    }

    private static void loadWithTheGripThatItHas() {
        Doc.says("Terms", "if it is not safe with one, it falls");
        VoussoirYard young = justSafeAtTheGrip5();
        young.pass(10);
        young.strike();
        Due.is(0, "at the grip 5 it bears nothing", () -> young.bears(2, 5));
        Due.is(true, "the load 0", () -> young.load(2, 0));
        Due.is(false, "the load 1", () -> young.load(2, 1));
        VoussoirYard old = justSafeAtTheGrip5();
        old.pass(10);
        old.strike();
        old.pass(5);
        int most = old.bears(2, 6);
        Due.is(true, "at the grip 6 it bears more", () -> most > 0 && most < old.bears(2, 8));
        Due.is(true, "all that it bears", () -> old.load(2, most));
        Due.is(false, "one more", () -> old.load(2, most + 1));
    }

    private static void loadTakenAwayThatHeldTheArch() {
        Doc.says("Terms", "Loads can be put on places of an arch that stands");
        VoussoirYard arch = Arches.standing();
        arch.load(3, 20000);
        Due.is(true, "more than it bears alone", () -> arch.load(1, 1016));
        Due.is(false, "the other load is taken away", () -> arch.load(3, 0));
        Due.is('b', "it fell", () -> arch.stateOf(0));
    }

    // ---- the fall, and promise 27

    private static void fallBreaksSetStones() {
        Doc.says("Terms", "it falls: all stones that are set are broken");
        VoussoirYard yard = Arches.fallen();
        for (int stone = 0; stone < 8; stone++) {
            int number = stone;
            Due.is(stone < 4 ? 'b' : 'y', "the stone " + stone, () -> yard.stateOf(number));
        }
        VoussoirYard busy = Arches.standing();
        busy.cut(0, 0, 0);
        busy.load(1, 20000);
        Due.is('c', "a stone that is being cut is not broken", () -> busy.stateOf(4));
    }

    private static void fallEmptiesPlaces() {
        Doc.says("Terms", "their places are empty");
        VoussoirYard yard = Arches.fallen();
        for (int place = 0; place < 4; place++) {
            int number = place;
            Due.fails(NOTHING, "the place " + place, () -> yard.stoneIn(number));
        }
        yard.setCentre(99999);
        Due.fails(NOT_NOW, "none is beside the place 1", () -> yard.set(5, 1));
        Due.is(1, "the first one that is filled again", () -> yard.set(4, 0));
    }

    private static void fallLeavesNoCentre() {
        Doc.says("Terms", "there is no centre");
        VoussoirYard yard = Arches.fallen();
        Due.fails(NOT_NOW, "nothing can be set", () -> yard.set(4, 0));
        Due.fails(NOT_NOW, "nothing can be struck", yard::strike);
        Due.is(true, "a new one can be set up", () -> yard.setCentre(1) > 0);
        Due.fails(NOT_NOW, "which is weak", () -> yard.set(4, 0));
    }

    private static void fallTakesAllLoads() {
        Doc.says("Terms", "and all loads are 0");
        VoussoirYard yard = Arches.standing();
        long without = yard.thrust(10);
        yard.load(0, 300);
        yard.load(2, 200);
        yard.load(3, 100);
        Due.is(true, "the loads ask for more", () -> yard.thrust(10) > without);
        Due.is(false, "it falls", () -> yard.load(1, 20000));
        Due.is(without, "no load asks for more", () -> yard.thrust(10));
        Due.is(1015, "no load helps to bear another", () -> yard.bears(1, 8));
    }

    private static void standsAgain() {
        Doc.says("Terms", "no centre is struck ahead of the last stone, and an arch that stands has a safe thrust");
        VoussoirYard yard = Arches.fallen();
        yard.setCentre(99999);
        for (int place = 0; place < 4; place++) {
            Due.fails(NOT_NOW, place + " of 4 places are filled", yard::strike);
            yard.set(4 + place, place);
        }
        Due.fails(UNSAFE, "the mortar is fresh again", yard::strike);
        yard.pass(25);
        long thrust = yard.thrust(8);
        Due.is(thrust, "the mortar is old", yard::strike);
        Due.is(true, "it stands", yard::stands);
        Due.is(false, "it falls", () -> yard.load(1, 20000));
        Due.is('b', "so do the new stones", () -> yard.stateOf(7));
    }

    private static void standsFromTheStrikeToTheFall() {
        Doc.says("Promise 27", "Returns whether the arch stands.");
        Due.is(false, "a new yard", () -> new VoussoirYard().stands());
        VoussoirYard yard = Arches.filled();
        Due.is(false, "on the centre", yard::stands);
        Due.fails(UNSAFE, "not yet", yard::strike);
        Due.is(false, "a strike that failed", yard::stands);
        yard.pass(25);
        yard.strike();
        Due.is(true, "struck", yard::stands);
        yard.pass(99);
        Due.is(true, "long ago", yard::stands);
        yard.load(1, 1015);
        Due.is(true, "with all that it bears", yard::stands);
        yard.load(1, 1016);
        Due.is(false, "with one more", yard::stands);
    }

    // ---- promises 28 and 33

    private static void daysOutOfRange() {
        Doc.says("Promise 28", "the number of days, 1 to 99");
        Doc.says("Promise 28", "Throws `IllegalArgumentException` if it is out of range");
        VoussoirYard yard = new VoussoirYard();
        for (int days : new int[] {0, 100, -1, LEAST, MOST}) {
            Due.fails(WRONG, "" + days, () -> yard.pass(days));
        }
        Due.is(1, "1", () -> yard.pass(1));
        Due.is(100, "99", () -> yard.pass(99));
    }

    private static void daysPassed() {
        Doc.says("Promise 28", "Returns the day.");
        VoussoirYard yard = new VoussoirYard();
        Due.is(99, "the last one ahead of 100", () -> yard.pass(99));
        Due.is(119, "the last one of the year", () -> yard.pass(20));
        Due.is(120, "the first one of the next year", () -> yard.pass(1));
        for (int call = 4; call <= 511; call++) {
            yard.pass(99);
        }
        Due.is(120 + 508 * 99 + 99, "the last one of 512 calls", () -> yard.pass(99));
    }

    private static void soundDrawings() {
        Doc.says("Promise 33", "Checks whether the areas of the places are, together, that of the whole drawing "
            + "gone round along the inner points and back along the outer ones");
        Due.is(true, "no joint", () -> new VoussoirYard().isSound());
        for (int places = 0; places <= 7; places++) {
            int number = places;
            Due.is(true, number + " places", () -> Arches.beam(number, 2).isSound());
        }
        Due.is(true, "away from the corner of the sheet", () -> Arches.round().isSound());
        Due.is(true, "in its far corner",
            () -> Arches.drawn(new int[][] {{16, 17, 15, 20}, {19, 16, 20, 20}}).isSound());
    }

    private static void soundWithStones() {
        Doc.says("Promise 33", "each stone that is set fits its place");
        for (int filled = 0; filled <= 3; filled++) {
            int number = filled;
            Due.is(true, number + " of 3 are set", () -> Arches.filledBeam(3, number).isSound());
        }
        VoussoirYard moved = Arches.filledBeam(4, 1);
        moved.moveJoint(3, 13, 1, 11, 5);
        Due.is(true, "stones that are not set fit no more", moved::isSound);
    }

    private static void soundWhileItStands() {
        Doc.says("Promise 33", "and an arch that stands is safe");
        Doc.says("Promise 33", "Returns whether this holds.");
        Due.is(true, "not safe, and on its centre", () -> Arches.filled().isSound());
        VoussoirYard arch = Arches.standing();
        Due.is(true, "it stands", arch::isSound);
        arch.load(1, 1015);
        Due.is(true, "it just stands", arch::isSound);
        arch.load(1, 1016);
        Due.is(true, "it fell", arch::isSound);
    }
}
