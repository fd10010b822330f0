import java.util.NoSuchElementException;

/** Of several exceptions that apply the one that the document lists first: for each method each pair that can meet. */
public final class ExceptionOrderTest {
    private static final Class<IndexOutOfBoundsException> NO_SUCH = IndexOutOfBoundsException.class;
    private static final Class<IllegalArgumentException> WRONG = IllegalArgumentException.class;
    private static final Class<UnsupportedOperationException> NOT_NOW = UnsupportedOperationException.class;
    private static final Class<IllegalStateException> FULL = IllegalStateException.class;
    private static final Class<NoSuchElementException> NOTHING = NoSuchElementException.class;

    public static void main(String[] args) {
        Doc.says("Terms", "If several exceptions apply, the exception that is listed first is thrown.");
        drawJointWrongWhileStonesAreSet();
        drawJointWrongAsTheNinth();
        drawTheNinthJointWhileStonesAreSet();
        drawJointWithAllAtOnce();
        moveNoJointWrongly();
        moveJointWronglyBesideStones();
        setWrongDensityWhileStonesAreSet();
        wrongGripWithoutTwoPlaces();
        bearsOfNoPlaceWithWrongGrip();
        bearsOfNoPlaceWithoutTwoPlaces();
        bearsWithWrongGripWithoutTwoPlaces();
        addWrongSeventhKind();
        bestBlockOfNoPlaceWithoutBlocks();
        addWrongFifthMason();
        cutOfWhatIsNotThereFromWhatIsNotLeft();
        cutOfWhatIsNotThereWithFortyStones();
        cutOfWhatCannotBeCutWithFortyStones();
        cutWithAllAtOnce();
        markAtOfNoStoneAndNoSign();
        wrongStrengthWhileThereIsACentre();
        wrongStrengthWhileTheArchStands();
        setWhatIsNotThereWithoutCentre();
        setWhatDoesNotFitAndIsNotInTheYard();
        setWhatDoesNotFitIntoWhatCannotBeFilled();
        setWhatDoesNotFitWithoutCentre();
        setWhatDoesNotFitOnWeakCentre();
        stoneInNoPlaceOfAnEmptyArch();
        strikeUnsafeArchWithoutCentre();
        strikeUnsafeArchWithEmptyPlace();
        strikeTooFewPlaces();
        loadNoPlaceWrongly();
        loadNoPlaceOfWhatDoesNotStand();
        loadWronglyWhatDoesNotStand();
        Due.end();
    }

    // ---- the drawing

    /** Seven places of 2 by 2, and the first of them filled: no joint can be drawn for two reasons. */
    private static VoussoirYard fullAndFilled() {
        VoussoirYard yard = Arches.beam(7, 2);
        yard.addBlocks(2, 2, 99, 1, true);
        yard.addMason(99, 1);
        yard.cut(0, 0, 0);
        yard.pass(1);
        yard.setCentre(99999);
        yard.set(0, 0);
        return yard;
    }

    private static void drawJointWrongWhileStonesAreSet() {
        Due.under("drawJoint, IllegalArgumentException ahead of UnsupportedOperationException");
        VoussoirYard yard = Arches.filledBeam(2, 1);
        Due.fails(WRONG, "out of range", () -> yard.drawJoint(21, 0, 12, 4));
        Due.fails(WRONG, "out of range at the end", () -> yard.drawJoint(12, 0, 12, -1));
        Due.fails(WRONG, "the same points", () -> yard.drawJoint(12, 0, 12, 0));
        Due.fails(WRONG, "not to the left", () -> yard.drawJoint(7, 0, 7, 4));
        Due.fails(NOT_NOW, "right", () -> yard.drawJoint(12, 0, 12, 4));
    }

    private static void drawJointWrongAsTheNinth() {
        Due.under("drawJoint, IllegalArgumentException ahead of IllegalStateException");
        VoussoirYard yard = Arches.beam(7, 2);
        Due.fails(WRONG, "out of range", () -> yard.drawJoint(16, 0, 21, 2));
        Due.fails(WRONG, "the same points", () -> yard.drawJoint(16, 0, 16, 0));
        Due.fails(WRONG, "straight on", () -> yard.drawJoint(14, 0, 16, 2));
        Due.fails(WRONG, "not to the left", () -> yard.drawJoint(13, 0, 13, 2));
        Due.fails(FULL, "right", () -> yard.drawJoint(16, 0, 16, 2));
    }

    private static void drawTheNinthJointWhileStonesAreSet() {
        Due.under("drawJoint, UnsupportedOperationException ahead of IllegalStateException");
        Due.fails(NOT_NOW, "the ninth", () -> fullAndFilled().drawJoint(16, 0, 16, 2));
    }

    private static void drawJointWithAllAtOnce() {
        Due.under("drawJoint, IllegalArgumentException ahead of both others");
        VoussoirYard yard = fullAndFilled();
        Due.fails(WRONG, "out of range", () -> yard.drawJoint(16, 21, 16, 2));
        Due.fails(WRONG, "the same points", () -> yard.drawJoint(16, 0, 16, 0));
        Due.fails(WRONG, "not to the left", () -> yard.drawJoint(16, 2, 16, 0));
    }

    private static void moveNoJointWrongly() {
        Due.under("moveJoint, IndexOutOfBoundsException ahead of IllegalArgumentException");
        VoussoirYard yard = Arches.beam(2, 4);
        for (int joint : new int[] {-1, 3, Integer.MAX_VALUE}) {
            Due.fails(NO_SUCH, "out of range", () -> yard.moveJoint(joint, 12, 0, 12, 21));
            Due.fails(NO_SUCH, "the same points", () -> yard.moveJoint(joint, 12, 0, 12, 0));
            Due.fails(NO_SUCH, "not to the left", () -> yard.moveJoint(joint, 12, 4, 12, 0));
            Due.fails(NO_SUCH, "right", () -> yard.moveJoint(joint, 12, 0, 12, 4));
        }
        Due.fails(NO_SUCH, "with all places filled", () -> Arches.filledBeam(2, 2).moveJoint(3, 8, 0, 8, 0));
    }

    private static void moveJointWronglyBesideStones() {
        Due.under("moveJoint, IllegalArgumentException ahead of UnsupportedOperationException");
        VoussoirYard yard = Arches.filledBeam(3, 1);
        for (int joint = 0; joint < 2; joint++) {
            int beside = joint;
            Due.fails(WRONG, "out of range", () -> yard.moveJoint(beside, 21, 0, 4, 4));
            Due.fails(WRONG, "the same points", () -> yard.moveJoint(beside, 4, 4, 4, 4));
            Due.fails(WRONG, "not to the left", () -> yard.moveJoint(beside, 4 * beside, 4, 4 * beside, 0));
            Due.fails(NOT_NOW, "right", () -> yard.moveJoint(beside, 4 * beside, 0, 4 * beside, 4));
        }
        Due.fails(WRONG, "wrong for the empty place on the other side", () -> yard.moveJoint(1, 9, 0, 9, 4));
    }

    private static void setWrongDensityWhileStonesAreSet() {
        Due.under("setDensity, IllegalArgumentException ahead of UnsupportedOperationException");
        VoussoirYard yard = Arches.filledBeam(2, 1);
        Due.fails(WRONG, "0", () -> yard.setDensity(0));
        Due.fails(WRONG, "4", () -> yard.setDensity(4));
        Due.fails(NOT_NOW, "2", () -> yard.setDensity(2));
    }

    // ---- thrust

    private static void wrongGripWithoutTwoPlaces() {
        Due.under("isSafe and thrust, IllegalArgumentException ahead of NoSuchElementException");
        for (int places = -1; places < 2; places++) {
            VoussoirYard yard = places < 0 ? new VoussoirYard() : Arches.beam(places, 4);
            for (int grip : new int[] {-1, 11}) {
                Due.fails(WRONG, "isSafe, " + places + " places", () -> yard.isSafe(grip));
                Due.fails(WRONG, "thrust, " + places + " places", () -> yard.thrust(grip));
            }
            Due.fails(NOTHING, "isSafe, " + places + " places, a right grip", () -> yard.isSafe(10));
            Due.fails(NOTHING, "thrust, " + places + " places, a right grip", () -> yard.thrust(10));
        }
    }

    private static void bearsOfNoPlaceWithWrongGrip() {
        Due.under("bears, IndexOutOfBoundsException ahead of IllegalArgumentException");
        VoussoirYard yard = Arches.beam(2, 4);
        Due.fails(NO_SUCH, "-1 and -1", () -> yard.bears(-1, -1));
        Due.fails(NO_SUCH, "2 and 11", () -> yard.bears(2, 11));
        Due.fails(WRONG, "0 and 11", () -> yard.bears(0, 11));
    }

    private static void bearsOfNoPlaceWithoutTwoPlaces() {
        Due.under("bears, IndexOutOfBoundsException ahead of NoSuchElementException");
        Due.fails(NO_SUCH, "no joint", () -> new VoussoirYard().bears(0, 10));
        Due.fails(NO_SUCH, "no joint, a wrong grip", () -> new VoussoirYard().bears(0, 11));
        Due.fails(NO_SUCH, "one place, and another asked", () -> Arches.beam(1, 4).bears(1, 10));
        Due.fails(NO_SUCH, "an unsafe arch, and no place of it", () -> Arches.beam(2, 4).bears(2, 0));
    }

    private static void bearsWithWrongGripWithoutTwoPlaces() {
        Due.under("bears, IllegalArgumentException ahead of NoSuchElementException");
        Due.fails(WRONG, "11", () -> Arches.beam(1, 4).bears(0, 11));
        Due.fails(WRONG, "-1", () -> Arches.beam(1, 4).bears(0, -1));
        Due.fails(NOTHING, "10", () -> Arches.beam(1, 4).bears(0, 10));
    }

    // ---- quarry and masons

    private static void addWrongSeventhKind() {
        Due.under("addBlocks, IllegalArgumentException ahead of IllegalStateException");
        VoussoirYard yard = new VoussoirYard();
        for (int kind = 0; kind < 6; kind++) {
            yard.addBlocks(5, 5, 5, 5, true);
        }
        Due.fails(WRONG, "a wrong width", () -> yard.addBlocks(21, 5, 5, 5, true));
        Due.fails(WRONG, "a wrong height", () -> yard.addBlocks(5, 0, 5, 5, true));
        Due.fails(WRONG, "a wrong number", () -> yard.addBlocks(5, 5, 100, 5, true));
        Due.fails(WRONG, "a wrong price", () -> yard.addBlocks(5, 5, 5, 1000, true));
        Due.fails(FULL, "all right", () -> yard.addBlocks(5, 5, 5, 5, true));
    }

    private static void bestBlockOfNoPlaceWithoutBlocks() {
        Due.under("bestBlock, IndexOutOfBoundsException ahead of NoSuchElementException");
        VoussoirYard yard = Arches.beam(2, 4);
        Due.fails(NO_SUCH, "the place 2", () -> yard.bestBlock(2));
        Due.fails(NO_SUCH, "the place -1", () -> yard.bestBlock(-1));
        Due.fails(NOTHING, "the place 1", () -> yard.bestBlock(1));
    }

    private static void addWrongFifthMason() {
        Due.under("addMason, IllegalArgumentException ahead of IllegalStateException");
        VoussoirYard yard = new VoussoirYard();
        for (int mason = 0; mason < 4; mason++) {
            yard.addMason(5, 5);
        }
        Due.fails(WRONG, "a wrong skill", () -> yard.addMason(0, 5));
        Due.fails(WRONG, "a wrong pay", () -> yard.addMason(5, 10));
        Due.fails(FULL, "both right", () -> yard.addMason(5, 5));
    }

    /** Two places; of the kind 0 none is left, the kind 1 is too small, of the kind 2 there are more. */
    private static VoussoirYard nearlyUsedUp(int stones) {
        VoussoirYard yard = Arches.beam(2, 4);
        yard.addBlocks(4, 4, 1, 1, true);
        yard.addBlocks(3, 3, 9, 1, true);
        yard.addBlocks(4, 4, 99, 1, true);
        yard.addMason(99, 0);
        yard.cut(0, 0, 0);
        for (int stone = 1; stone < stones; stone++) {
            yard.cut(0, 2, 0);
        }
        return yard;
    }

    private static void cutOfWhatIsNotThereFromWhatIsNotLeft() {
        Due.under("cut, IndexOutOfBoundsException ahead of UnsupportedOperationException");
        VoussoirYard yard = nearlyUsedUp(1);
        for (int kind = 0; kind < 2; kind++) {
            int from = kind;
            Due.fails(NO_SUCH, "no place", () -> yard.cut(2, from, 0));
            Due.fails(NO_SUCH, "no mason", () -> yard.cut(0, from, 1));
            Due.fails(NO_SUCH, "neither", () -> yard.cut(-1, from, -1));
            Due.fails(NOT_NOW, "both", () -> yard.cut(0, from, 0));
        }
    }

    private static void cutOfWhatIsNotThereWithFortyStones() {
        Due.under("cut, IndexOutOfBoundsException ahead of IllegalStateException");
        VoussoirYard yard = nearlyUsedUp(40);
        Due.fails(NO_SUCH, "no place", () -> yard.cut(2, 2, 0));
        Due.fails(NO_SUCH, "no kind", () -> yard.cut(0, 3, 0));
        Due.fails(NO_SUCH, "no mason", () -> yard.cut(0, 2, 1));
        Due.fails(FULL, "all there", () -> yard.cut(0, 2, 0));
    }

    private static void cutOfWhatCannotBeCutWithFortyStones() {
        Due.under("cut, UnsupportedOperationException ahead of IllegalStateException");
        VoussoirYard yard = nearlyUsedUp(40);
        Due.fails(NOT_NOW, "none is left", () -> yard.cut(0, 0, 0));
        Due.fails(NOT_NOW, "it is too small", () -> yard.cut(0, 1, 0));
    }

    private static void cutWithAllAtOnce() {
        Due.under("cut, IndexOutOfBoundsException ahead of both others");
        VoussoirYard yard = nearlyUsedUp(40);
        Due.fails(NO_SUCH, "no place, none left, 40 stones", () -> yard.cut(2, 0, 0));
        Due.fails(NO_SUCH, "no mason, too small, 40 stones", () -> yard.cut(0, 1, 1));
    }

    // ---- stones

    private static void markAtOfNoStoneAndNoSign() {
        Due.under("markAt, IndexOutOfBoundsException for both");
        Due.fails(NO_SUCH, "neither", () -> Arches.readyBeam(2, 9).markAt(2, 6));
        Due.fails(NO_SUCH, "neither, in a new yard", () -> new VoussoirYard().markAt(-1, -1));
    }

    private static void wrongStrengthWhileThereIsACentre() {
        Due.under("setCentre, IllegalArgumentException ahead of UnsupportedOperationException, a centre");
        VoussoirYard yard = Arches.readyBeam(2, 9);
        Due.fails(WRONG, "0", () -> yard.setCentre(0));
        Due.fails(WRONG, "100000", () -> yard.setCentre(100000));
        Due.fails(NOT_NOW, "1", () -> yard.setCentre(1));
    }

    private static void wrongStrengthWhileTheArchStands() {
        Due.under("setCentre, IllegalArgumentException ahead of UnsupportedOperationException, it stands");
        VoussoirYard yard = Arches.standing();
        Due.fails(WRONG, "0", () -> yard.setCentre(0));
        Due.fails(WRONG, "100000", () -> yard.setCentre(100000));
        Due.fails(NOT_NOW, "1", () -> yard.setCentre(1));
    }

    private static void setWhatIsNotThereWithoutCentre() {
        Due.under("set, IndexOutOfBoundsException ahead of the others");
        VoussoirYard yard = Arches.quarriedBeam(2, 1);
        yard.cut(0, 0, 0);
        Due.fails(NO_SUCH, "no stone, no centre", () -> yard.set(1, 0));
        Due.fails(NO_SUCH, "no place, no centre, being cut", () -> yard.set(0, 2));
        Due.fails(NO_SUCH, "neither", () -> yard.set(-1, -1));
        Due.fails(NO_SUCH, "no stone, the place is filled", () -> Arches.filledBeam(2, 1).set(2, 0));
        Due.fails(NO_SUCH, "no place, the stone is set", () -> Arches.filledBeam(2, 1).set(0, 2));
    }

    private static void setWhatDoesNotFitAndIsNotInTheYard() {
        Due.under("set, IllegalArgumentException ahead of UnsupportedOperationException, not in the yard");
        VoussoirYard cut = Arches.quarriedBeam(2, 1);
        cut.cut(0, 0, 0);
        cut.setCentre(99999);
        cut.moveJoint(2, 8, 0, 8, 5);
        Due.fails(WRONG, "being cut", () -> cut.set(0, 1));
        Due.fails(NOT_NOW, "being cut, fits", () -> cut.set(0, 0));
        VoussoirYard set = Arches.filledBeam(3, 1);
        set.moveJoint(3, 12, 0, 12, 5);
        Due.fails(WRONG, "set", () -> set.set(0, 2));
        Due.fails(NOT_NOW, "set, fits", () -> set.set(0, 1));
        VoussoirYard broken = Arches.fallen();
        broken.setCentre(99999);
        Due.fails(WRONG, "broken", () -> broken.set(0, 3));
        Due.fails(NOT_NOW, "broken, fits", () -> broken.set(0, 0));
    }

    private static void setWhatDoesNotFitIntoWhatCannotBeFilled() {
        Due.under("set, IllegalArgumentException ahead of UnsupportedOperationException, the place");
        VoussoirYard yard = Arches.fallen();
        yard.setCentre(99999);
        Due.fails(WRONG, "in the middle", () -> yard.set(4, 1));
        Due.fails(NOT_NOW, "in the middle, fits", () -> yard.set(5, 1));
        yard.set(4, 0);
        Due.fails(WRONG, "filled", () -> yard.set(5, 0));
        yard.cut(0, 0, 0);
        yard.pass(1);
        Due.fails(NOT_NOW, "filled, fits", () -> yard.set(8, 0));
    }

    private static void setWhatDoesNotFitWithoutCentre() {
        Due.under("set, IllegalArgumentException ahead of UnsupportedOperationException, no centre");
        VoussoirYard yard = Arches.fallen();
        Due.fails(WRONG, "does not fit", () -> yard.set(4, 3));
        Due.fails(NOT_NOW, "fits", () -> yard.set(4, 0));
    }

    private static void setWhatDoesNotFitOnWeakCentre() {
        Due.under("set, IllegalArgumentException ahead of UnsupportedOperationException, a weak centre");
        VoussoirYard yard = Arches.fallen();
        yard.setCentre(1);
        Due.fails(WRONG, "does not fit", () -> yard.set(4, 3));
        Due.fails(NOT_NOW, "fits", () -> yard.set(4, 0));
    }

    private static void stoneInNoPlaceOfAnEmptyArch() {
        Due.under("stoneIn, IndexOutOfBoundsException ahead of NoSuchElementException");
        VoussoirYard yard = Arches.beam(2, 4);
        Due.fails(NO_SUCH, "the place 2", () -> yard.stoneIn(2));
        Due.fails(NOTHING, "the place 1", () -> yard.stoneIn(1));
    }

    private static void strikeUnsafeArchWithoutCentre() {
        Due.under("strike, UnsupportedOperationException ahead of IllegalStateException, no centre");
        VoussoirYard yard = Arches.fallen();
        Due.is(false, "it is not safe with its grip", () -> yard.isSafe(yard.grip()));
        Due.fails(NOT_NOW, "no centre, no stone", yard::strike);
        Due.fails(NOT_NOW, "nothing but a drawing", () -> Arches.pointed().strike());
    }

    private static void strikeUnsafeArchWithEmptyPlace() {
        Due.under("strike, UnsupportedOperationException ahead of IllegalStateException, an empty place");
        VoussoirYard yard = Arches.fallen();
        yard.setCentre(99999);
        for (int place = 0; place < 4; place++) {
            Due.fails(NOT_NOW, place + " of 4", yard::strike);
            yard.set(4 + place, place);
        }
        Due.fails(FULL, "4 of 4", yard::strike);
    }

    private static void strikeTooFewPlaces() {
        Due.under("strike, UnsupportedOperationException ahead of IllegalStateException, too few places");
        VoussoirYard yard = Arches.drawn(new int[][] {{10, 9, 0, 0}, {10, 12, 0, 12}});
        yard.addBlocks(20, 20, 9, 0, true);
        yard.addMason(99, 0);
        yard.cut(0, 0, 0);
        yard.pass(9);
        yard.setCentre(99999);
        yard.set(0, 0);
        Due.fails(NOT_NOW, "one place, on a slope of 9 tenths", yard::strike);
    }

    private static void loadNoPlaceWrongly() {
        Due.under("load, IndexOutOfBoundsException ahead of IllegalArgumentException");
        VoussoirYard yard = Arches.standing();
        Due.fails(NO_SUCH, "4 and 20001", () -> yard.load(4, 20001));
        Due.fails(NO_SUCH, "-1 and -1", () -> yard.load(-1, -1));
        Due.fails(WRONG, "3 and -1", () -> yard.load(3, -1));
        Due.is(true, "it stands as it stood", yard::stands);
    }

    private static void loadNoPlaceOfWhatDoesNotStand() {
        Due.under("load, IndexOutOfBoundsException ahead of UnsupportedOperationException");
        VoussoirYard yard = Arches.filledBeam(2, 2);
        Due.fails(NO_SUCH, "2 and 5", () -> yard.load(2, 5));
        Due.fails(NO_SUCH, "2 and 20001", () -> yard.load(2, 20001));
        Due.fails(NO_SUCH, "a new yard", () -> new VoussoirYard().load(0, 0));
        Due.fails(NOT_NOW, "1 and 5", () -> yard.load(1, 5));
    }

    private static void loadWronglyWhatDoesNotStand() {
        Due.under("load, IllegalArgumentException ahead of UnsupportedOperationException");
        VoussoirYard yard = Arches.filledBeam(2, 2);
        Due.fails(WRONG, "20001", () -> yard.load(1, 20001));
        Due.fails(WRONG, "-1", () -> yard.load(1, -1));
        Due.fails(NOT_NOW, "20000", () -> yard.load(1, 20000));
    }
}
