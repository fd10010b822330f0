/** Lives of 512 calls in which the numbers get as great as they can: the 512th answer is due like the first. */
public final class LongLifeTest {
    private static final int CALLS = 512;

    private LongLifeTest() {
    }

    public static void main(String[] args) {
        Doc.says("What it is", "An object is used for at most 512 calls after it has been made");
        mostVersions();
        mostDays();
        mostDaysOfGrip();
        longestQueue();
        mostMoney();
        Due.end();
    }

    private static VoussoirYard squareOf20() {
        return Arches.drawn(new int[][] {{0, 0, 0, 20}, {20, 0, 20, 20}});
    }

    private static void mostVersions() {
        VoussoirYard yard = squareOf20();
        yard.addBlocks(20, 20, 1, 0, true);
        yard.addMason(99, 0);
        int made = 4;
        while (made < CALLS - 9) {
            yard.moveJoint(0, 0, 0, 0, 20);
            made++;
        }
        int version = made - 2;
        Due.is(version + 1, "the last version", () -> yard.moveJoint(1, 20, 0, 20, 20));
        Due.is(0, "a stone by it", () -> yard.cut(0, 0, 0));
        Due.is(8, "the length of its mark", () -> yard.mark(0));
        String mark = "v" + (version + 1) + "-0";
        for (int sign = 0; sign < mark.length(); sign++) {
            int index = sign;
            Due.is(mark.charAt(sign), "the sign " + (index + 2), () -> yard.markAt(0, index + 2));
        }
    }

    /** 506 times 99 days are 50094: 417 years and 54 days, of which all 54 have no frost. */
    private static void mostDays() {
        VoussoirYard yard = squareOf20();
        yard.addBlocks(20, 20, 1, 0, true);
        yard.addMason(99, 0);
        for (int call = 4; call < CALLS - 3; call++) {
            yard.pass(99);
        }
        Due.is(0, "a stone on the day 49995", () -> yard.cut(0, 0, 0));
        // 800 / 99 are 9 days; the day is 505 * 99 = 49995 = 416 * 120 + 75
        Due.is(49995 + 9, "ready", () -> yard.readyOn(0));
        Due.is(50094, "the last day", () -> yard.pass(99));
    }

    /** The mortar of a place that was filled on the day 9 stays at the greatest grip. */
    private static void mostDaysOfGrip() {
        VoussoirYard yard = squareOf20();
        yard.addBlocks(20, 20, 1, 0, true);
        yard.addMason(99, 0);
        yard.cut(0, 0, 0);
        yard.pass(9);
        yard.setCentre(99999);
        Due.is(1, "the place is filled", () -> yard.set(0, 0));
        Due.is(3, "the grip at first", () -> yard.grip());
        for (int call = 9; call < CALLS - 1; call++) {
            yard.pass(99);
        }
        Due.is(8, "the grip at last", () -> yard.grip());
    }

    /** 40 stones of 800 by a mason of the skill 1: 32000 days without frost are 355 years and 50 days. */
    private static void longestQueue() {
        VoussoirYard yard = squareOf20();
        yard.addBlocks(20, 20, 99, 0, true);
        yard.addMason(1, 0);
        for (int stone = 0; stone < 40; stone++) {
            yard.cut(0, 0, 0);
        }
        Due.is(355 * 120 + 50, "the last stone is ready", () -> yard.readyOn(39));
        Due.is(7, "the length of its mark", () -> yard.mark(39));
        for (int call = 46; call < CALLS - 36; call++) {
            yard.pass(99);
        }
        // 430 times 99 are 42570
        Due.is('c', "still being cut", () -> yard.stateOf(39));
        Due.is(42570 + 80, "the day", () -> yard.pass(80));
        Due.is('y', "on the day on which it is ready", () -> yard.stateOf(39));
    }

    private static void mostMoney() {
        VoussoirYard yard = squareOf20();
        yard.addBlocks(20, 20, 99, 999, true);
        yard.addMason(99, 9);
        for (int stone = 0; stone < 40; stone++) {
            yard.cut(0, 0, 0);
        }
        Due.is(40L * (999 + 9 * 800), "spent", () -> yard.spent());
        Due.is(0, "no waste in full blocks", () -> yard.waste());
        Due.is(1.0f, "all of it is used", () -> yard.usedShare());
    }
}
