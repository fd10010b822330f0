/** Drawings that several tests use. */
final class Arches {
    private Arches() {
    }

    /** Five places, doubled areas 32, 41, 48, 41, 32; its weights at density 1 are 3 times these. */
    static VoussoirYard round() {
        return drawn(new int[][] {{3, 1, 0, 1}, {4, 5, 1, 7}, {7, 8, 5, 12},
            {11, 8, 13, 12}, {14, 5, 17, 7}, {15, 1, 18, 1}});
    }

    /** Four places, steep; safe with the mortar's grip at its greatest. */
    static VoussoirYard pointed() {
        return drawn(new int[][] {{2, 0, 0, 0}, {3, 6, 1, 8}, {8, 10, 8, 15}, {13, 6, 15, 8}, {14, 0, 16, 0}});
    }

    /** Equal squares side by side, each of the doubled area 2 * side * side. */
    static VoussoirYard beam(int places, int side) {
        VoussoirYard yard = new VoussoirYard();
        for (int joint = 0; joint <= places; joint++) {
            yard.drawJoint(joint * side, 0, joint * side, side);
        }
        return yard;
    }

    static VoussoirYard drawn(int[][] joints) {
        VoussoirYard yard = new VoussoirYard();
        for (int[] joint : joints) {
            yard.drawJoint(joint[0], joint[1], joint[2], joint[3]);
        }
        return yard;
    }

    /** A beam of squares with the doubled area 32 and the weight 96, blocks enough, and one mason. */
    static VoussoirYard quarriedBeam(int places, int skill) {
        VoussoirYard yard = beam(places, 4);
        yard.addBlocks(4, 4, 99, 1, true);
        yard.addMason(skill, 1);
        return yard;
    }

    /** The same with a stone in the yard for each place, and with a centre: stone n fits each place. */
    static VoussoirYard readyBeam(int places, int strength) {
        VoussoirYard yard = quarriedBeam(places, 99);
        for (int place = 0; place < places; place++) {
            yard.cut(place, 0, 0);
        }
        yard.pass(places);
        yard.setCentre(strength);
        return yard;
    }

    /** The same with the first stones set from the left: stone n in the place n. */
    static VoussoirYard filledBeam(int places, int filled) {
        VoussoirYard yard = readyBeam(places, 99999);
        for (int place = 0; place < filled; place++) {
            yard.set(place, place);
        }
        return yard;
    }

    /** A pointed arch that stood and fell: stones 0 to 3 are broken, 4 to 7 are in the yard, one for each place. */
    static VoussoirYard fallen() {
        VoussoirYard yard = standing();
        for (int place = 0; place < 4; place++) {
            yard.cut(place, 0, place);
        }
        yard.pass(1);
        yard.load(1, 20000);
        return yard;
    }

    /** The pointed arch, cut, set on a centre, old enough for the grip 8, and struck. */
    static VoussoirYard standing() {
        VoussoirYard yard = filled();
        yard.pass(25);
        yard.strike();
        return yard;
    }

    /** The pointed arch with all stones set on the day 1 on its centre: stone n in the place n. */
    static VoussoirYard filled() {
        VoussoirYard yard = pointed();
        yard.addBlocks(20, 20, 50, 9, false);
        yard.addMason(99, 1);
        yard.addMason(99, 1);
        yard.addMason(99, 1);
        yard.addMason(99, 1);
        for (int place = 0; place < 4; place++) {
            yard.cut(place, 0, place);
        }
        yard.pass(1);
        yard.setCentre(99999);
        yard.set(0, 0);
        yard.set(1, 1);
        yard.set(2, 2);
        yard.set(3, 3);
        return yard;
    }
}
