import java.util.NoSuchElementException;
import java.util.Random;

/** Promises 8 to 10, 25 and 26 where the numbers are greatest: seven places, the density 3, loads of up to 20000. */
public final class HeavyLoadTest {
    private static final int PLACES = 7;
    private static final int DENSITY = 3;
    private static final int GRIP = 8;
    private static final int MOST_LOAD = 20000;
    private static final int DRAWINGS = 60;
    private static final Random RANDOM = new Random(20000);
    private static int stood = 0;
    private static int fell = 0;

    private HeavyLoadTest() {
    }

    public static void main(String[] args) {
        uprightJoints();
        for (int drawing = 0; drawing < DRAWINGS; drawing++) {
            loadUntilItFalls("wall " + drawing, wall());
            loadUntilItFalls("arch " + drawing, arch());
        }
        Due.report("some stood, and some fell: " + stood + ", " + fell, "" + (stood > 20 && fell > 5), "true");
        Due.end();
    }

    /**
     * Seven places, 2 wide and 20 high, weigh 720 each: with their loads 145040, half of it on each side. So the
     * push is 72520 * 10 / grip as a least, and the line then stays between the points.
     */
    private static void uprightJoints() {
        int[][] joints = new int[PLACES + 1][];
        for (int joint = 0; joint <= PLACES; joint++) {
            joints[joint] = new int[] {2 * joint, 0, 2 * joint, 20};
        }
        VoussoirYard yard = filled(joints);
        Due.is(3150L, "struck: 7 * 720 / 2 * 10 / 8", () -> yard.strike());
        for (int place = 0; place < PLACES; place++) {
            int loaded = place;
            Due.is(MOST_LOAD, "it bears all on " + loaded, () -> yard.bears(loaded, GRIP));
            Due.is(true, "it stands with all on " + loaded, () -> yard.load(loaded, MOST_LOAD));
        }
        long[] least = {725200, 362600, 241734, 181300, 145040, 120867, 103600, 90650, 80578, 72520};
        for (int grip = 1; grip <= 10; grip++) {
            int with = grip;
            Due.is(least[grip - 1], "the thrust at the grip " + grip, () -> yard.thrust(with));
        }
        Due.is(false, "no grip", () -> yard.isSafe(0));
    }

    /** As high as can be, the joints a little off the upright: the loads push most where it bears them all. */
    private static int[][] wall() {
        int[][] joints = new int[PLACES + 1][];
        int lean = RANDOM.nextInt(3);
        for (int joint = 0; joint <= PLACES; joint++) {
            int fan = lean * (2 * joint - PLACES) / 7;
            joints[joint] = new int[] {3 + 2 * joint - fan + RANDOM.nextInt(2), RANDOM.nextInt(5),
                3 + 2 * joint + fan - RANDOM.nextInt(2), 20 - RANDOM.nextInt(9)};
        }
        return joints;
    }

    private static int[][] arch() {
        int[][] joints = new int[PLACES + 1][];
        double inner = 4 + 2 * RANDOM.nextDouble();
        double outer = inner + 3 + RANDOM.nextDouble();
        double lift = 1 + RANDOM.nextDouble();
        for (int joint = 0; joint <= PLACES; joint++) {
            double angle = Math.PI * (0.9 - 0.8 * joint / PLACES);
            joints[joint] = new int[] {near(10 + inner * Math.cos(angle)), near(inner * lift * Math.sin(angle)),
                near(10 + outer * Math.cos(angle)), near(outer * lift * Math.sin(angle))};
        }
        return joints;
    }

    private static int near(double number) {
        return (int) Math.max(0, Math.min(20, Math.round(number)));
    }

    private static void loadUntilItFalls(String name, int[][] joints) {
        VoussoirYard yard = filled(joints);
        if (yard == null || Due.outcome(() -> yard.strike()).startsWith("throws")) {
            return;
        }
        int[] loads = new int[PLACES];
        while (yard.stands() && RANDOM.nextInt(12) > 0) {
            int place = RANDOM.nextInt(PLACES);
            loads[place] = RANDOM.nextInt(3) == 0 ? MOST_LOAD - RANDOM.nextInt(19000) : MOST_LOAD;
            boolean isSafe = new CornerOracle(joints, DENSITY, loads, GRIP).isSafe();
            Due.is(isSafe, name + " stands with " + loads[place] + " on " + place,
                () -> yard.load(place, loads[place]));
        }
        if (yard.stands()) {
            stood++;
            compare(name, yard, joints, loads);
        } else {
            fell++;
        }
    }

    private static void compare(String name, VoussoirYard yard, int[][] joints, int[] loads) {
        for (int grip = 0; grip <= 10; grip++) {
            int with = grip;
            CornerOracle oracle = new CornerOracle(joints, DENSITY, loads, grip);
            Due.is(oracle.isSafe(), name + " is safe at " + grip, () -> yard.isSafe(with));
            if (oracle.isSafe()) {
                Due.is(oracle.leastRoundedUp(), name + ", its thrust at " + grip, () -> yard.thrust(with));
            }
        }
        for (int place = 0; place < PLACES; place++) {
            compareBears(name, yard, joints, loads, place);
        }
    }

    private static void compareBears(String name, VoussoirYard yard, int[][] joints, int[] loads, int place) {
        if (!isSafeWith(joints, loads, place, 0)) {
            // the loads on the other places need one here against them
            Due.fails(NoSuchElementException.class, name + " bears on " + place, () -> yard.bears(place, GRIP));
            return;
        }
        int greatest = yard.bears(place, GRIP);
        String what = name + " bears on " + place + " ";
        Due.is(true, what + greatest, () -> isSafeWith(joints, loads, place, greatest));
        if (greatest < MOST_LOAD) {
            Due.is(false, what + (greatest + 1), () -> isSafeWith(joints, loads, place, greatest + 1));
        }
    }

    private static boolean isSafeWith(int[][] joints, int[] loads, int place, int load) {
        int[] tried = loads.clone();
        tried[place] = load;
        return new CornerOracle(joints, DENSITY, tried, GRIP).isSafe();
    }

    /** All stones set, and mortar of the greatest grip; null if the joints cannot be drawn. */
    private static VoussoirYard filled(int[][] joints) {
        VoussoirYard yard = new VoussoirYard();
        for (int[] joint : joints) {
            if (Due.outcome(() -> yard.drawJoint(joint[0], joint[1], joint[2], joint[3])).startsWith("throws")) {
                return null;
            }
        }
        yard.setDensity(DENSITY);
        yard.addBlocks(20, 20, PLACES, 1, true);
        yard.addMason(99, 1);
        for (int place = 0; place < PLACES; place++) {
            yard.cut(place, 0, 0);
        }
        yard.pass(30);
        yard.setCentre(99999);
        for (int place = 0; place < PLACES; place++) {
            yard.set(place, place);
        }
        yard.pass(25);
        return yard;
    }
}
