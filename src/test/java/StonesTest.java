import java.util.NoSuchElementException;

/** Promises 17 to 28 and 33: stones, marks, the centre, the arch that stands and falls, and the days. */
public final class StonesTest {
    private static final Class<IndexOutOfBoundsException> NO_SUCH = IndexOutOfBoundsException.class;
    private static final Class<IllegalArgumentException> WRONG = IllegalArgumentException.class;
    private static final Class<UnsupportedOperationException> NOT_NOW = UnsupportedOperationException.class;
    private static final Class<IllegalStateException> UNSAFE = IllegalStateException.class;
    private static final int[] FAR = {-1, 40, Integer.MIN_VALUE, Integer.MAX_VALUE};

    public static void main(String[] args) {
        readyOn();
        readyOnInFrost();
        stateOf();
        marks();
        longMark();
        fits();
        setCentre();
        set();
        setOrderOfPlaces();
        setOnWeakCentre();
        stoneIn();
        strike();
        strikeOfUnsafeArch();
        load();
        fall();
        pass();
        isSound();
        Due.end();
    }

    private static void readyOn() {
        VoussoirYard yard = Arches.quarriedBeam(2, 10);
        yard.addMason(32, 0);
        yard.addMason(31, 0);
        yard.cut(0, 0, 0);
        yard.cut(0, 0, 0);
        yard.cut(0, 0, 1);
        yard.cut(0, 0, 1);
        yard.cut(0, 0, 2);
        Due.is(4, "32 at 10 a day", () -> yard.readyOn(0));
        Due.is(8, "behind the one ahead", () -> yard.readyOn(1));
        Due.is(1, "32 at 32 a day", () -> yard.readyOn(2));
        Due.is(2, "the next day", () -> yard.readyOn(3));
        Due.is(2, "32 at 31 a day", () -> yard.readyOn(4));
        yard.pass(5);
        yard.cut(1, 0, 0);
        yard.cut(1, 0, 1);
        Due.is(12, "as soon as the one ahead is ready", () -> yard.readyOn(5));
        Due.is(6, "today", () -> yard.readyOn(6));
        Due.is(4, "it stays", () -> yard.readyOn(0));
        for (int stone : FAR) {
            Due.fails(NO_SUCH, "readyOn of no stone", () -> yard.readyOn(stone));
        }
        Due.fails(NO_SUCH, "readyOn behind the last stone", () -> yard.readyOn(7));
    }

    private static void readyOnInFrost() {
        VoussoirYard yard = Arches.quarriedBeam(2, 16);
        yard.addMason(32, 0);
        yard.pass(88);
        yard.cut(0, 0, 0);
        Due.is(90, "the days 88 and 89, ahead of the frost", () -> yard.readyOn(0));
        yard.cut(0, 0, 0);
        Due.is(122, "begun in the frost, the days 120 and 121", () -> yard.readyOn(1));
        yard.pass(1);
        yard.cut(0, 0, 1);
        Due.is(90, "the day 89", () -> yard.readyOn(2));
        yard.cut(0, 0, 1);
        Due.is(121, "the day 120", () -> yard.readyOn(3));
        yard.pass(30);
        yard.cut(0, 0, 1);
        Due.is(122, "the day 121", () -> yard.readyOn(4));
        VoussoirYard late = Arches.quarriedBeam(2, 16);
        late.pass(89);
        late.cut(0, 0, 0);
        Due.is(121, "the days 89 and 120", () -> late.readyOn(0));
        VoussoirYard cold = Arches.quarriedBeam(2, 32);
        cold.pass(99);
        cold.cut(0, 0, 0);
        Due.is(121, "told in the frost", () -> cold.readyOn(0));
        cold.pass(20);
        Due.is("c", "on the last day of frost", () -> cold.stateOf(0));
    }

    private static void stateOf() {
        VoussoirYard yard = Arches.quarriedBeam(2, 10);
        yard.cut(0, 0, 0);
        Due.is('c', "today", () -> yard.stateOf(0));
        yard.pass(3);
        Due.is('c', "on the last day of work", () -> yard.stateOf(0));
        yard.pass(1);
        Due.is('y', "on the day behind it", () -> yard.stateOf(0));
        yard.setCentre(96);
        yard.set(0, 1);
        Due.is('s', "set", () -> yard.stateOf(0));
        yard.pass(99);
        Due.is('s', "set for long", () -> yard.stateOf(0));
        for (int stone : FAR) {
            Due.fails(NO_SUCH, "stateOf no stone", () -> yard.stateOf(stone));
        }
        Due.fails(NO_SUCH, "stateOf behind the last stone", () -> yard.stateOf(1));
    }

    private static String textOf(VoussoirYard yard, int stone) {
        StringBuilder text = new StringBuilder();
        for (int index = 0; index < yard.mark(stone); index++) {
            text.append(yard.markAt(stone, index));
        }
        return text.toString();
    }

    private static void marks() {
        VoussoirYard yard = Arches.quarriedBeam(3, 10);
        yard.addMason(10, 0);
        yard.addMason(10, 0);
        yard.addMason(10, 0);
        yard.cut(0, 0, 0);
        yard.cut(2, 0, 3);
        yard.cut(1, 0, 0);
        yard.moveJoint(0, 0, 0, 0, 4);
        yard.cut(1, 0, 2);
        yard.cut(0, 0, 1);
        yard.cut(0, 0, 0);
        String[] due = {"A0v4-0", "D2v4-0", "A1v4-1", "C1v5-0", "B0v5-0", "A0v5-2"};
        for (int stone = 0; stone < due.length; stone++) {
            int asked = stone;
            Due.is(due[stone], "mark of the stone " + stone, () -> textOf(yard, asked));
            Due.is(6, "its length", () -> yard.mark(asked));
            Due.fails(NO_SUCH, "its sign -1", () -> yard.markAt(asked, -1));
            Due.fails(NO_SUCH, "its sign 6", () -> yard.markAt(asked, 6));
        }
        for (int number : FAR) {
            Due.fails(NO_SUCH, "mark of no stone", () -> yard.mark(number));
            Due.fails(NO_SUCH, "markAt of no stone", () -> yard.markAt(number, 0));
            Due.fails(NO_SUCH, "markAt of no sign", () -> yard.markAt(0, number));
        }
        Due.fails(NO_SUCH, "mark behind the last stone", () -> yard.mark(6));
        Due.fails(NO_SUCH, "markAt behind the last stone", () -> yard.markAt(6, 0));
    }

    private static void longMark() {
        VoussoirYard yard = Arches.quarriedBeam(2, 99);
        for (int move = 0; move < 120; move++) {
            yard.moveJoint(1, 4, 0, 4, 4);
        }
        for (int stone = 0; stone < 12; stone++) {
            yard.cut(1, 0, 0);
        }
        Due.is("A1v123-11", "a long mark", () -> textOf(yard, 11));
        Due.is(9, "its length", () -> yard.mark(11));
        Due.is('1', "its last sign", () -> yard.markAt(11, 8));
    }

    private static void fits() {
        VoussoirYard yard = Arches.quarriedBeam(3, 99);
        yard.cut(0, 0, 0);
        for (int place = 0; place < 3; place++) {
            int at = place;
            Due.is(true, "an equal place, " + place + ", while it is being cut", () -> yard.fits(0, at));
        }
        yard.moveJoint(3, 12, 0, 12, 5);
        Due.is(false, "another right outer point", () -> yard.fits(0, 2));
        yard.moveJoint(3, 12, 1, 12, 4);
        Due.is(false, "another right inner point", () -> yard.fits(0, 2));
        yard.moveJoint(3, 12, 0, 12, 4);
        Due.is(true, "moved back, at a later version", () -> yard.fits(0, 2));
        yard.moveJoint(0, 0, 0, 0, 5);
        Due.is(false, "another left outer point", () -> yard.fits(0, 0));
        yard.moveJoint(0, 1, 0, 1, 4);
        Due.is(false, "another left joint", () -> yard.fits(0, 0));
        for (int number : FAR) {
            Due.fails(NO_SUCH, "fits of no stone", () -> yard.fits(number, 0));
            Due.fails(NO_SUCH, "fits no place", () -> yard.fits(0, number));
        }
        Due.fails(NO_SUCH, "fits of the stone behind the last", () -> yard.fits(1, 0));
        Due.fails(NO_SUCH, "fits the place behind the last", () -> yard.fits(0, 3));
        // a place that is moved as a whole, up too, still fits
        VoussoirYard stairs = Arches.drawn(new int[][] {{0, 0, 0, 4}, {4, 2, 4, 6}, {8, 4, 8, 8}, {12, 5, 12, 10}});
        stairs.addBlocks(9, 9, 9, 1, true);
        stairs.addMason(99, 1);
        stairs.cut(0, 0, 0);
        Due.is(true, "a step higher", () -> stairs.fits(0, 1));
        Due.is(false, "not the third", () -> stairs.fits(0, 2));
        // half a turn round gives the same shape, but not the same corners from the first one
        VoussoirYard turned = Arches.drawn(new int[][] {{8, 0, 0, 0}, {8, 6, 2, 6}, {10, 12, 2, 12}});
        turned.addBlocks(20, 20, 9, 1, true);
        turned.addMason(99, 1);
        turned.cut(0, 0, 0);
        Due.is(false, "turned by half", () -> turned.fits(0, 1));
    }

    private static void setCentre() {
        VoussoirYard yard = Arches.round();
        Due.fails(WRONG, "the strength 0", () -> yard.setCentre(0));
        Due.fails(WRONG, "the strength 100000", () -> yard.setCentre(100000));
        Due.fails(WRONG, "the strength -1", () -> yard.setCentre(-1));
        yard.setDensity(2);
        Due.is(2 * 3 * 194, "the weight of all places", () -> yard.setCentre(99999));
        Due.fails(NOT_NOW, "a second centre", () -> yard.setCentre(5));
        Due.fails(WRONG, "a second centre that is wrong", () -> yard.setCentre(0));
        VoussoirYard fresh = new VoussoirYard();
        Due.is(0, "a centre for nothing", () -> fresh.setCentre(1));
        VoussoirYard arch = Arches.standing();
        Due.fails(NOT_NOW, "the arch stands", () -> arch.setCentre(99999));
        arch.load(0, 20000);
        arch.load(1, 20000);
        Due.is(false, "it fell", arch::stands);
        Due.is(arch.weight(0) + arch.weight(1) + arch.weight(2) + arch.weight(3), "it fell",
            () -> arch.setCentre(99999));
    }

    private static void set() {
        VoussoirYard yard = Arches.quarriedBeam(3, 10);
        yard.cut(0, 0, 0);
        yard.cut(0, 0, 0);
        for (int number : FAR) {
            Due.fails(NO_SUCH, "no stone", () -> yard.set(number, 0));
            Due.fails(NO_SUCH, "no place", () -> yard.set(0, number));
        }
        Due.fails(NO_SUCH, "the stone behind the last", () -> yard.set(2, 0));
        Due.fails(NO_SUCH, "the place behind the last", () -> yard.set(0, 3));
        yard.pass(4);
        Due.fails(NOT_NOW, "there is no centre", () -> yard.set(0, 0));
        yard.setCentre(99999);
        Due.fails(NOT_NOW, "it is being cut", () -> yard.set(1, 0));
        yard.moveJoint(3, 12, 0, 12, 5);
        Due.fails(WRONG, "it is being cut, and does not fit", () -> yard.set(1, 2));
        Due.fails(WRONG, "it does not fit", () -> yard.set(0, 2));
        Due.is(1, "it is ready today", () -> yard.set(0, 0));
        Due.fails(NOT_NOW, "it is set already", () -> yard.set(0, 1));
        Due.fails(NOT_NOW, "it is set just there", () -> yard.set(0, 0));
        yard.pass(4);
        Due.fails(NOT_NOW, "the place is filled", () -> yard.set(1, 0));
        Due.is('y', "it is still in the yard", () -> yard.stateOf(1));
        Due.is(2, "beside it", () -> yard.set(1, 1));
        Due.is('s', "now it is set", () -> yard.stateOf(1));
    }

    private static void setOrderOfPlaces() {
        VoussoirYard yard = Arches.quarriedBeam(5, 99);
        for (int stone = 0; stone < 5; stone++) {
            yard.cut(0, 0, 0);
        }
        yard.pass(9);
        yard.setCentre(99999);
        for (int place = 1; place < 4; place++) {
            int at = place;
            Due.fails(NOT_NOW, "in the air, " + place, () -> yard.set(0, at));
        }
        Due.is(1, "the last place", () -> yard.set(0, 4));
        Due.fails(NOT_NOW, "still in the air, 1", () -> yard.set(1, 1));
        Due.fails(NOT_NOW, "still in the air, 2", () -> yard.set(1, 2));
        Due.is(2, "beside the last place", () -> yard.set(1, 3));
        Due.is(3, "the first place", () -> yard.set(2, 0));
        Due.is(4, "beside the first place", () -> yard.set(3, 1));
        Due.is(5, "between two", () -> yard.set(4, 2));
    }

    private static void setOnWeakCentre() {
        VoussoirYard yard = Arches.quarriedBeam(2, 99);
        yard.cut(0, 0, 0);
        yard.cut(0, 0, 0);
        yard.pass(9);
        yard.setCentre(191);
        Due.is(1, "the first one is borne", () -> yard.set(0, 0));
        Due.fails(NOT_NOW, "both are not", () -> yard.set(1, 1));
        VoussoirYard weak = Arches.quarriedBeam(2, 99);
        weak.cut(0, 0, 0);
        weak.pass(9);
        weak.setCentre(95);
        Due.fails(NOT_NOW, "not even one", () -> weak.set(0, 0));
        VoussoirYard just = Arches.quarriedBeam(2, 99);
        just.setDensity(2);
        just.cut(0, 0, 0);
        just.cut(0, 0, 0);
        just.pass(9);
        just.setCentre(384);
        Due.is(1, "the first one of two", () -> just.set(0, 0));
        Due.is(2, "just both", () -> just.set(1, 1));
    }

    private static void stoneIn() {
        VoussoirYard yard = Arches.quarriedBeam(2, 99);
        yard.cut(0, 0, 0);
        yard.cut(0, 0, 0);
        yard.pass(9);
        yard.setCentre(99999);
        yard.set(1, 0);
        Due.is(1, "the stone 1", () -> yard.stoneIn(0));
        Due.fails(NoSuchElementException.class, "none", () -> yard.stoneIn(1));
        yard.set(0, 1);
        Due.is(0, "the stone 0", () -> yard.stoneIn(1));
        for (int place : FAR) {
            Due.fails(NO_SUCH, "no place", () -> yard.stoneIn(place));
        }
        Due.fails(NO_SUCH, "the place behind the last", () -> yard.stoneIn(2));
    }

    private static void strike() {
        VoussoirYard yard = Arches.quarriedBeam(2, 99);
        Due.fails(NOT_NOW, "nothing is there", yard::strike);
        yard.cut(0, 0, 0);
        yard.cut(0, 0, 0);
        yard.pass(9);
        yard.setCentre(99999);
        Due.fails(NOT_NOW, "no place is filled", yard::strike);
        yard.set(0, 0);
        Due.fails(NOT_NOW, "one place is empty", yard::strike);
        yard.set(1, 1);
        Due.is(320L, "with the grip 3", yard::strike);
        Due.is(true, "it stands", yard::stands);
        Due.fails(NOT_NOW, "the centre is struck", yard::strike);
        Due.is('s', "its stones are set", () -> yard.stateOf(0));
        VoussoirYard single = Arches.quarriedBeam(1, 99);
        single.cut(0, 0, 0);
        single.pass(9);
        single.setCentre(99999);
        single.set(0, 0);
        Due.fails(NOT_NOW, "one place is too few", single::strike);
        VoussoirYard fresh = new VoussoirYard();
        fresh.setCentre(1);
        Due.fails(NOT_NOW, "no place is too few", fresh::strike);
    }

    private static void strikeOfUnsafeArch() {
        VoussoirYard yard = Arches.filled();
        Due.is(false, "the grip 3 is not enough", () -> yard.isSafe(3));
        Due.fails(UNSAFE, "on the day of setting", yard::strike);
        Due.is(false, "it does not stand", yard::stands);
        Due.fails(NOT_NOW, "the centre is still there", () -> yard.setCentre(5));
        Due.is('s', "the stones are not broken", () -> yard.stateOf(0));
        int days = 0;
        while (!yard.isSafe(yard.grip()) && days < 50) {
            Due.fails(UNSAFE, "after " + days + " days", yard::strike);
            yard.pass(1);
            days++;
        }
        long least = yard.thrust(yard.grip());
        Due.is(true, "the mortar took some days", () -> yard.grip() > 3);
        Due.is(least, "the mortar is strong enough", yard::strike);
    }

    private static void load() {
        VoussoirYard yard = Arches.filled();
        Due.fails(NOT_NOW, "on the centre", () -> yard.load(1, 0));
        Due.fails(WRONG, "a wrong load on the centre", () -> yard.load(1, -1));
        yard.pass(25);
        yard.strike();
        Due.fails(NO_SUCH, "no place", () -> yard.load(4, 5));
        Due.fails(NO_SUCH, "no place, and a wrong load", () -> yard.load(-1, -5));
        Due.fails(NO_SUCH, "the greatest number", () -> yard.load(Integer.MAX_VALUE, 5));
        Due.fails(WRONG, "the load -1", () -> yard.load(1, -1));
        Due.fails(WRONG, "the load 20001", () -> yard.load(1, 20001));
        long without = yard.thrust(8);
        Due.is(true, "a load on the crown", () -> yard.load(2, 100));
        Due.is(true, "it asks for more thrust", () -> yard.thrust(8) > without);
        Due.is(true, "the load 0 takes it away", () -> yard.load(2, 0));
        Due.is(without, "as ahead of it", () -> yard.thrust(8));
        int borne = yard.bears(2, 8);
        Due.is(true, "the greatest that it bears", () -> yard.load(2, borne));
        Due.is(true, "again, in place of it", () -> yard.load(2, borne));
        Due.is(false, "one more", () -> yard.load(2, borne + 1));
        Due.fails(NOT_NOW, "there is nothing to load", () -> yard.load(2, 0));
        VoussoirYard beam = Arches.quarriedBeam(2, 99);
        beam.cut(0, 0, 0);
        beam.cut(0, 0, 0);
        beam.pass(2);
        beam.setCentre(99999);
        beam.set(0, 0);
        beam.set(1, 1);
        beam.strike();
        Due.is(true, "a beam takes the greatest load", () -> beam.load(1, 20000));
        // the load and the weights, half to each end at 3 tenths: 20192 / 0.6
        Due.is(33654L, "and needs the thrust for it", () -> beam.thrust(3));
    }

    private static void fall() {
        VoussoirYard yard = Arches.standing();
        yard.cut(0, 0, 0);
        yard.pass(2);
        yard.load(2, 30);
        Due.is(false, "it falls", () -> yard.load(1, 20000));
        Due.is(false, "it does not stand", yard::stands);
        for (int number = 0; number < 4; number++) {
            int at = number;
            Due.is('b', "broken " + at, () -> yard.stateOf(at));
            Due.fails(NoSuchElementException.class, "empty " + at, () -> yard.stoneIn(at));
            Due.fails(NOT_NOW, "broken stones cannot be set", () -> yard.set(at, at));
        }
        Due.is('y', "the spare stone is whole", () -> yard.stateOf(4));
        Due.is(112L, "no load is left", () -> thrustOfRaised(yard));
        Due.fails(NOT_NOW, "there is no centre to strike", yard::strike);
        Due.fails(NOT_NOW, "nothing can be set without a centre", () -> yard.set(4, 0));
        yard.setCentre(99999);
        Due.is('b', "broken stones stay broken", () -> yard.stateOf(0));
        Due.is(true, "the shape of a broken stone still fits", () -> yard.fits(0, 0));
        Due.fails(NOT_NOW, "a broken stone on a new centre", () -> yard.set(0, 0));
        Due.is(1, "the spare stone", () -> yard.set(4, 0));
        Due.is(true, "it is sound", yard::isSound);
    }

    /** The thrust at the density 3 with the middle joint one lower, as ../shared/tests tells it. */
    private static long thrustOfRaised(VoussoirYard yard) {
        yard.setDensity(3);
        yard.moveJoint(2, 8, 10, 8, 15);
        long thrust = yard.thrust(10);
        yard.setDensity(1);
        return thrust;
    }

    private static void pass() {
        VoussoirYard yard = new VoussoirYard();
        int[] wrong = {0, 100, -1, Integer.MAX_VALUE, Integer.MIN_VALUE};
        for (int days : wrong) {
            Due.fails(WRONG, "a wrong number of days", () -> yard.pass(days));
        }
        Due.is(1, "a day", () -> yard.pass(1));
        Due.is(100, "99 days", () -> yard.pass(99));
        for (int call = 0; call < 400; call++) {
            yard.pass(99);
        }
        Due.is(39701, "many days", () -> yard.pass(1));
    }

    private static void isSound() {
        Due.is(true, "a round arch", () -> Arches.round().isSound());
        Due.is(true, "a beam", () -> Arches.beam(7, 2).isSound());
        VoussoirYard single = new VoussoirYard();
        single.drawJoint(3, 4, 5, 6);
        Due.is(true, "one joint", single::isSound);
        VoussoirYard filled = Arches.filled();
        Due.is(true, "filled, and not safe without its centre", filled::isSound);
        VoussoirYard arch = Arches.standing();
        Due.is(true, "an arch that stands", arch::isSound);
        arch.load(1, 100);
        Due.is(true, "with a load", arch::isSound);
        arch.load(1, 20000);
        Due.is(true, "fallen", arch::isSound);
        // a drawing that goes round more than once: its areas count each time
        VoussoirYard spiral = Arches.drawn(new int[][] {{9, 10, 5, 10}, {10, 12, 9, 16}, {12, 10, 16, 11},
            {10, 8, 10, 3}, {8, 10, 2, 10}});
        Due.is(true, "round and round", spiral::isSound);
    }
}
