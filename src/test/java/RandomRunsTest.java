import java.lang.reflect.Method;
import java.util.Arrays;
import java.util.HashMap;
import java.util.Map;
import java.util.Random;

/** Runs of 512 calls, with arguments right and wrong, on the class and on the PlainYard: the same answers are due. */
public final class RandomRunsTest {
    private static final int RUNS = 160;
    private static final int CALLS = 512;
    private static final Method[] METHODS = Calls.methodsOf(VoussoirYard.class);
    private static final Map<String, Integer> ANSWERED = new HashMap<>();

    private final Random random;
    private final int run;
    private final VoussoirYard yard = new VoussoirYard();
    private final PlainYard plain = new PlainYard();
    private final int[][] arch;
    private int drawn = 0;

    private RandomRunsTest(int run) {
        this.run = run;
        random = new Random(run);
        arch = arch(2 + random.nextInt(6));
    }

    public static void main(String[] args) {
        for (int run = 0; run < RUNS; run++) {
            new RandomRunsTest(run).go();
        }
        for (Method method : METHODS) {
            demandSeen(method.getName());
        }
        demandSeen("a fall");
        demandSeen("a strike");
        Due.end();
    }

    private static void demandSeen(String what) {
        Due.report(what + " was met with an answer", ANSWERED.containsKey(what) ? "yes" : "no", "yes");
    }

    /** Joints round about a middle, shaken a little. */
    private int[][] arch(int places) {
        double inner = 3 + random.nextInt(6);
        double outer = inner + 2 + random.nextInt(5);
        double lift = 0.7 + random.nextDouble() * 0.8;
        double tilt = (random.nextDouble() - 0.5) * 0.3;
        int[][] joints = new int[places + 1][];
        for (int j = 0; j <= places; j++) {
            double angle = Math.PI * (1 - (double) j / places) + tilt;
            double ease = 0.02 * random.nextInt(3);
            joints[j] = new int[] {near(10 + Math.cos(angle) * inner), near(1 + Math.sin(angle) * inner * lift),
                near(10 + Math.cos(angle + ease) * outer), near(1 + Math.sin(angle + ease) * outer * lift)};
        }
        return joints;
    }

    private static int near(double number) {
        return (int) Math.max(0, Math.min(20, Math.round(number)));
    }

    private void go() {
        for (int call = 0; call < CALLS; call++) {
            if (random.nextInt(10) < 6) {
                helpfulCall();
            } else {
                Method method = METHODS[random.nextInt(METHODS.length)];
                if (!method.getName().equals("bears") || random.nextInt(4) == 0) {
                    ask(method.getName(), argumentsFor(method));
                }
            }
        }
    }

    private void helpfulCall() {
        int places = plain.places();
        int choice = random.nextInt(12);
        if (choice == 0) {
            ask("addBlocks", 5 + random.nextInt(16), 5 + random.nextInt(16), 1 + random.nextInt(20),
                random.nextInt(1000), random.nextBoolean());
        } else if (choice == 1) {
            ask("addMason", 1 + random.nextInt(99), random.nextInt(10));
        } else if (choice <= 4 && places < arch.length - 1) {
            int[] joint = arch[Math.min(drawn, arch.length - 1)];
            ask("drawJoint", joint[0], joint[1], joint[2], joint[3]);
        } else if (choice <= 6 && places > 0) {
            int place = random.nextInt(places);
            ask("cut", place, random.nextInt(3), random.nextInt(2));
        } else if (choice == 7) {
            ask("setCentre", random.nextInt(3) == 0 ? 1 + random.nextInt(3000) : 99999);
        } else if (choice <= 9) {
            setSomeStone();
        } else if (choice == 10) {
            ask("strike");
        } else if (plain.stands()) {
            ask("load", random.nextInt(places), random.nextInt(1 << random.nextInt(15)));
        } else {
            ask("pass", 1 + random.nextInt(30));
        }
    }

    private void setSomeStone() {
        for (int tries = 0; tries < 200; tries++) {
            int stone = random.nextInt(40);
            int place = plain.places() == 0 ? 0 : random.nextInt(plain.places());
            String state = Due.outcome(() -> plain.stateOf(stone));
            if (state.equals("y") && Due.outcome(() -> plain.fits(stone, place)).equals("true")
                    && !Due.outcome(() -> plain.stoneIn(place)).matches("\\d+")) {
                ask("set", stone, place);
                return;
            }
        }
        ask("pass", 1 + random.nextInt(5));
    }

    private Object[] argumentsFor(Method method) {
        Object[] arguments = new Object[method.getParameterCount()];
        for (int i = 0; i < arguments.length; i++) {
            arguments[i] = method.getParameterTypes()[i] == boolean.class
                ? (Object) random.nextBoolean() : (Object) number(method.getName(), i);
        }
        return arguments;
    }

    private int number(String method, int index) {
        int kindOfNumber = random.nextInt(40);
        if (kindOfNumber == 0) {
            return random.nextInt();
        }
        if (kindOfNumber == 1) {
            return random.nextBoolean() ? Integer.MAX_VALUE : Integer.MIN_VALUE;
        }
        switch (method) {
            case "drawJoint":
                return random.nextInt(23) - 1;
            case "moveJoint":
                return moved(index);
            case "addBlocks":
                return random.nextInt(new int[] {22, 22, 101, 1002}[index]);
            case "addMason":
                return random.nextInt(index == 0 ? 101 : 12) - index;
            case "isSafe":
            case "thrust":
                return random.nextInt(13) - 1;
            case "bears":
                return index == 0 ? random.nextInt(8) - 1 : random.nextInt(13) - 1;
            case "cut":
                return random.nextInt(new int[] {9, 4, 3}[index]) - (random.nextInt(8) == 0 ? 1 : 0);
            case "setDensity":
                return random.nextInt(5);
            case "pass":
                return random.nextInt(101);
            case "load":
                return index == 0 ? random.nextInt(8) - 1 : random.nextInt(1 << random.nextInt(16)) - 1;
            case "setCentre":
                return random.nextInt(100002);
            default:
                return random.nextInt(random.nextBoolean() ? 9 : 42) - 1;
        }
    }

    /** Mostly a place near the one where the joint should be; the shakes of one call share a joint by chance alone. */
    private int lastMoved;

    private int moved(int index) {
        if (index == 0) {
            lastMoved = random.nextInt(arch.length + 1);
            return random.nextInt(12) == 0 ? -1 : lastMoved;
        }
        int[] joint = arch[Math.min(lastMoved, arch.length - 1)];
        return joint[index - 1] + (random.nextInt(4) == 0 ? random.nextInt(3) - 1 : 0);
    }

    private void ask(String name, Object... arguments) {
        String what = "run " + run + ": " + name + Arrays.toString(arguments);
        boolean stoodBefore = plain.stands();
        String want = Calls.outcome(plain, name, arguments);
        String got = Calls.outcome(yard, name, arguments);
        Due.report(what, got, want);
        if (!want.startsWith("throws")) {
            ANSWERED.merge(name, 1, Integer::sum);
            drawn += name.equals("drawJoint") ? 1 : 0;
            if (stoodBefore && !plain.stands()) {
                ANSWERED.merge("a fall", 1, Integer::sum);
            }
            if (!stoodBefore && plain.stands()) {
                ANSWERED.merge("a strike", 1, Integer::sum);
            }
        }
    }
}
