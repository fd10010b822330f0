import java.util.Random;

/** Promises 8 to 10: random drawings, steep, flat, leaning and piled up, against the CornerOracle. */
public final class ThrustOracleTest {
    private static final int DRAWINGS = 700;
    private static final int PILES = 1500;
    private static final Random RANDOM = new Random(1);
    private static int safe = 0;
    private static int unsafe = 0;

    public static void main(String[] args) {
        for (int drawing = 0; drawing < DRAWINGS; drawing++) {
            tryDrawing("drawing " + drawing);
        }
        for (int pile = 0; pile < PILES; pile++) {
            tryPile("pile " + pile);
        }
        Due.report("enough drawings were safe, and enough were not", "" + (safe > 300 && unsafe > 300), "true");
        Due.end();
    }

    private static void tryDrawing(String name) {
        VoussoirYard yard = new VoussoirYard();
        int wanted = 3 + RANDOM.nextInt(6);
        int[][] joints = new int[wanted][];
        int count = 0;
        double turn = (RANDOM.nextInt(3) == 0 ? 1 : 2.6) * RANDOM.nextDouble() / wanted + 0.3;
        double angle = Math.PI * (0.5 + RANDOM.nextDouble() * 0.6);
        double size = 2 + RANDOM.nextInt(7);
        double thick = 1 + RANDOM.nextInt(8);
        for (int tries = 0; tries < 400 && count < wanted; tries++) {
            double a = angle - turn * count;
            double shake = RANDOM.nextDouble() * 1.4 * tries / 100;
            int[] joint = {near(10 + Math.cos(a) * size + shaken(shake)), near(4 + Math.sin(a) * size + shaken(shake)),
                near(10 + Math.cos(a) * (size + thick) + shaken(shake)),
                near(4 + Math.sin(a) * (size + thick) + shaken(shake))};
            try {
                yard.drawJoint(joint[0], joint[1], joint[2], joint[3]);
                joints[count++] = joint;
            } catch (IllegalArgumentException wrong) {
                continue;
            }
        }
        if (count >= 3) {
            compare(name, yard, java.util.Arrays.copyOf(joints, count));
        }
    }

    /** Joints that lie, or nearly, one over the other: a wrong side of a joint would pull here. */
    private static void tryPile(String name) {
        VoussoirYard yard = new VoussoirYard();
        int wanted = 3 + RANDOM.nextInt(3);
        boolean isRising = RANDOM.nextBoolean();
        int[][] joints = new int[wanted][];
        int count = 0;
        for (int tries = 0; tries < 60 && count < wanted; tries++) {
            int height = 1 + 4 * (isRising ? count : wanted - 1 - count);
            int inner = RANDOM.nextInt(21);
            int outer = Math.max(0, Math.min(20, inner + (isRising ? -1 : 1) * (1 + RANDOM.nextInt(8))));
            int[] joint = {inner, height, outer, height + (RANDOM.nextInt(5) == 0 ? 1 : 0)};
            try {
                yard.drawJoint(joint[0], joint[1], joint[2], joint[3]);
                joints[count++] = joint;
            } catch (IllegalArgumentException wrong) {
                continue;
            }
        }
        if (count >= 3) {
            compare(name, yard, java.util.Arrays.copyOf(joints, count));
        }
    }

    private static double shaken(double much) {
        return (RANDOM.nextDouble() - 0.5) * much;
    }

    private static int near(double number) {
        return (int) Math.max(0, Math.min(20, Math.round(number)));
    }

    private static void compare(String name, VoussoirYard yard, int[][] joints) {
        int density = 1 + RANDOM.nextInt(3);
        yard.setDensity(density);
        int[] loads = new int[joints.length - 1];
        for (int grip = 0; grip <= 10; grip += 1 + RANDOM.nextInt(3)) {
            CornerOracle oracle = new CornerOracle(joints, density, loads, grip);
            int asked = grip;
            Due.is(oracle.isSafe(), name + " isSafe " + grip, () -> yard.isSafe(asked));
            if (oracle.isSafe()) {
                safe++;
                Due.is(oracle.leastRoundedUp(), name + " thrust " + grip, () -> yard.thrust(asked));
                compareBears(name, yard, joints, density, grip);
            } else {
                unsafe++;
                Due.fails(java.util.NoSuchElementException.class, name + " thrust " + grip, () -> yard.thrust(asked));
            }
        }
    }

    private static void compareBears(String name, VoussoirYard yard, int[][] joints, int density, int grip) {
        int place = RANDOM.nextInt(joints.length - 1);
        int borne = yard.bears(place, grip);
        Due.report(name + " bears " + place + " " + grip + " is whole", "" + (borne >= 0 && borne <= 20000), "true");
        Due.report(name + " bears " + borne, "" + isSafeWith(joints, density, place, borne, grip), "true");
        if (borne < 20000) {
            int more = borne + 1 + RANDOM.nextInt(20000 - borne);
            Due.report(name + " bears no " + (borne + 1), "" + isSafeWith(joints, density, place, borne + 1, grip), "false");
            Due.report(name + " bears no " + more, "" + isSafeWith(joints, density, place, more, grip), "false");
        }
    }

    private static boolean isSafeWith(int[][] joints, int density, int place, int load, int grip) {
        int[] loads = new int[joints.length - 1];
        loads[place] = load;
        return new CornerOracle(joints, density, loads, grip).isSafe();
    }
}
