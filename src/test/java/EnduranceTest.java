import java.util.Random;

/** Far more than 512 calls: what they answer is free, but the machine itself must never throw. */
public final class EnduranceTest {
    private static final Numbers NUMBERS = new Numbers();

    public static void main(String[] args) {
        Doc.says("Not promised", "nothing about an object after its 512th call");
        VoussoirYard yard = Arches.standing();
        callAll("an arch that stands", yard);
        VoussoirYard filled = Arches.filled();
        for (long day = 0; day <= Integer.MAX_VALUE; day += 99) {
            filled.pass(99);
        }
        callAll("a yard whose days went over the greatest int", filled);
        VoussoirYard moved = Arches.beam(7, 2);
        for (int move = 0; move < 3000000; move++) {
            moved.moveJoint(3, 6, 0, 6, 2);
        }
        callAll("a yard of many versions", moved);
        Due.end();
    }

    private static void callAll(String name, VoussoirYard yard) {
        for (int call = 0; call < 4000; call++) {
            String outcome = Due.outcome(() -> someCall(yard));
            boolean isDue = !outcome.startsWith("throws") || outcome.matches("throws java\\.(lang\\."
                + "(IllegalArgument|IllegalState|UnsupportedOperation|IndexOutOfBounds|Arithmetic)|util\\.NoSuchElement)"
                + "Exception");
            Due.report(name + ": " + outcome, "" + isDue, "true");
        }
    }

    private static Object someCall(VoussoirYard yard) {
        int a = NUMBERS.next();
        int b = NUMBERS.next();
        switch (NUMBERS.choice(27)) {
            case 0: return yard.drawJoint(a, b, NUMBERS.next(), NUMBERS.next());
            case 1: return yard.moveJoint(a, b, NUMBERS.next(), NUMBERS.next(), NUMBERS.next());
            case 2: return yard.setDensity(a);
            case 3: return yard.area(a);
            case 4: return yard.weight(a);
            case 5: return yard.isSafe(a);
            case 6: return yard.thrust(a);
            case 7: return yard.bears(a, b);
            case 8: return yard.grip();
            case 9: return yard.addBlocks(a, b, NUMBERS.next(), NUMBERS.next(), a > b);
            case 10: return yard.blocks(a);
            case 11: return yard.bestBlock(a);
            case 12: return yard.addMason(a, b);
            case 13: return yard.cut(a, b, NUMBERS.next());
            case 14: return yard.readyOn(a);
            case 15: return yard.stateOf(a);
            case 16: return yard.mark(a);
            case 17: return yard.markAt(a, b);
            case 18: return yard.fits(a, b);
            case 19: return yard.setCentre(a);
            case 20: return yard.set(a, b);
            case 21: return yard.stoneIn(a);
            case 22: return yard.strike();
            case 23: return yard.load(a, b);
            case 24: return yard.pass(a);
            case 25: return yard.usedShare();
            default: return yard.isSound();
        }
    }

    /** Mostly small numbers, the same ones in every run of the test. */
    private static final class Numbers {
        private final Random random = new Random(512);

        int choice(int bound) {
            return random.nextInt(bound);
        }

        int next() {
            return random.nextInt(12) == 0 ? random.nextInt() : random.nextInt(random.nextBoolean() ? 8 : 43) - 1;
        }
    }
}
