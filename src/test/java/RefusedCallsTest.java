import java.lang.reflect.Method;
import java.util.ArrayList;
import java.util.List;
import java.util.Set;
import java.util.TreeSet;

/**
 * A method that throws an exception changes nothing, and one that only tells something does not either: after each
 * such call a yard goes on, through many calls of all kinds, like another one in which it was not made.
 */
public final class RefusedCallsTest {
    private static final Set<String> TELLING = Set.of("places", "area", "weight", "isSafe", "thrust", "bears", "grip",
        "blocks", "bestBlock", "readyOn", "stateOf", "mark", "markAt", "fits", "stoneIn", "stands", "spent", "waste",
        "usedShare", "meanArea", "isSound");
    private static final Set<String> MET = new TreeSet<>();

    private interface Start {
        VoussoirYard yard();
    }

    private RefusedCallsTest() {
    }

    public static void main(String[] args) {
        Doc.says("Terms", "A method that throws an exception changes nothing.");
        tryFrom("a new yard", VoussoirYard::new);
        tryFrom("one joint", () -> Arches.beam(0, 4));
        tryFrom("nothing but a drawing", Arches::pointed);
        tryFrom("one place", () -> Arches.filledBeam(1, 1));
        tryFrom("all that a yard can have", RefusedCallsTest::full);
        tryFrom("blocks used up and too small", RefusedCallsTest::nearlyUsedUp);
        tryFrom("stones being cut", RefusedCallsTest::busy);
        tryFrom("no centre", RefusedCallsTest::withoutCentre);
        tryFrom("a weak centre", () -> Arches.readyBeam(3, 100));
        tryFrom("one of three stones set", () -> Arches.filledBeam(3, 1));
        tryFrom("an arch on its centre", Arches::filled);
        tryFrom("an arch that stands with loads", RefusedCallsTest::loaded);
        tryFrom("an arch that fell", Arches::fallen);
        eachExceptionWasMet();
        Due.end();
    }

    // ---- where the yards begin

    private static VoussoirYard full() {
        VoussoirYard yard = Arches.beam(7, 2);
        for (int kind = 0; kind < 6; kind++) {
            yard.addBlocks(2 + kind, 2, kind < 1 ? 1 : 99, kind, kind < 3);
        }
        for (int mason = 0; mason < 4; mason++) {
            yard.addMason(3 + mason, mason);
        }
        for (int stone = 0; stone < 40; stone++) {
            yard.cut(stone % 7, stone % 6 == 0 && stone > 0 ? 1 : stone % 6, stone % 4);
        }
        yard.setDensity(2);
        return yard;
    }

    /** Of the kind 0 none is left, the kind 1 is too small; both masons have work for some days. */
    private static VoussoirYard nearlyUsedUp() {
        VoussoirYard yard = Arches.beam(2, 4);
        yard.addBlocks(4, 4, 1, 1, true);
        yard.addBlocks(3, 3, 9, 1, true);
        yard.addBlocks(4, 4, 99, 1, true);
        yard.addMason(9, 1);
        yard.addMason(9, 1);
        yard.cut(0, 0, 0);
        yard.cut(1, 2, 1);
        return yard;
    }

    private static VoussoirYard busy() {
        VoussoirYard yard = Arches.quarriedBeam(3, 3);
        yard.addMason(1, 2);
        yard.pass(70);
        yard.cut(0, 0, 0);
        yard.cut(1, 0, 1);
        yard.setCentre(500);
        return yard;
    }

    private static VoussoirYard withoutCentre() {
        VoussoirYard yard = Arches.quarriedBeam(2, 99);
        yard.cut(0, 0, 0);
        yard.cut(1, 0, 0);
        yard.pass(9);
        return yard;
    }

    private static VoussoirYard loaded() {
        VoussoirYard yard = Arches.standing();
        yard.load(3, 20000);
        yard.load(1, 1016);
        return yard;
    }

    // ---- the calls that are tried

    private static List<Object[]> argumentsFor(String name) {
        switch (name) {
            case "drawJoint":
                return rows(new int[][] {{-1, 0, 5, 5}, {0, 0, 5, 21}, {7, 7, 7, 7}, {1, 0, 1, 4}, {2, 2, 2, 0},
                    {20, 0, 20, 20}, {16, 0, 16, 2}});
            case "moveJoint":
                return rows(new int[][] {{-1, 0, 0, 0, 4}, {8, 0, 0, 0, 4}, {0, -1, 0, 5, 5}, {0, 0, 0, 21, 5},
                    {0, 7, 7, 7, 7}, {0, 0, 4, 0, 0}, {1, 20, 0, 20, 4}, {0, 0, 0, 0, 4}, {1, 4, 0, 4, 4},
                    {0, 2, 0, 0, 0}, {4, 14, 0, 16, 0}});
            case "addBlocks":
                return blockRows(new int[][] {{0, 5, 5, 5}, {5, 21, 5, 5}, {5, 5, 0, 5}, {5, 5, 5, 1000},
                    {5, 5, 5, 5}});
            case "addMason":
                return rows(new int[][] {{0, 5}, {100, 5}, {5, -1}, {5, 10}, {5, 5}});
            case "setDensity":
                return rows(new int[][] {{0}, {4}, {1}, {2}, {3}});
            case "setCentre":
                return rows(new int[][] {{0}, {100000}, {1}, {99999}});
            case "pass":
                return rows(new int[][] {{0}, {100}, {-1}});
            case "cut":
                return rows(new int[][] {{-1, 0, 0}, {7, 0, 0}, {0, 6, 0}, {0, -1, 0}, {0, 0, 4}, {0, 0, -1}, {0, 0, 0},
                    {0, 1, 0}, {1, 1, 1}, {1, 2, 1}});
            case "load":
                return rows(new int[][] {{-1, 5}, {7, 5}, {0, -1}, {0, 20001}, {0, 5}, {1, 0}});
            case "set":
                return rows(new int[][] {{-1, 0}, {40, 0}, {0, -1}, {0, 7}, {0, 0}, {0, 1}, {0, 2}, {1, 0}, {1, 1},
                    {1, 2}, {2, 1}, {4, 0}, {4, 3}});
            case "bears":
                return rows(new int[][] {{-1, 5}, {7, 5}, {0, 11}, {0, 0}, {0, 8}, {1, 10}, {3, 8}});
            case "markAt":
                return rows(new int[][] {{-1, 0}, {40, 0}, {0, -1}, {0, 9}, {0, 0}, {0, 5}});
            case "fits":
                return rows(new int[][] {{-1, 0}, {40, 0}, {0, -1}, {0, 7}, {0, 0}, {1, 2}});
            default:
                return rows(new int[][] {{-1}, {0}, {1}, {3}, {8}, {10}, {11}, {40}});
        }
    }

    private static List<Object[]> rows(int[][] numbers) {
        List<Object[]> rows = new ArrayList<>();
        for (int[] row : numbers) {
            Object[] arguments = new Object[row.length];
            for (int i = 0; i < row.length; i++) {
                arguments[i] = row[i];
            }
            rows.add(arguments);
        }
        return rows;
    }

    private static List<Object[]> blockRows(int[][] numbers) {
        List<Object[]> rows = new ArrayList<>();
        for (int[] row : numbers) {
            rows.add(new Object[] {row[0], row[1], row[2], row[3], true});
            rows.add(new Object[] {row[0], row[1], row[2], row[3], false});
        }
        return rows;
    }

    private static void tryFrom(String name, Start start) {
        String[] want = {life(start.yard(), false), life(start.yard(), true)};
        for (Method method : Calls.methodsOf(VoussoirYard.class)) {
            List<Object[]> rows = method.getParameterCount() == 0 ? List.<Object[]>of(new Object[0])
                : argumentsFor(method.getName());
            for (Object[] row : rows) {
                for (int order = 0; order < 2; order++) {
                    VoussoirYard yard = start.yard();
                    String outcome = Calls.outcome(yard, method.getName(), row);
                    if (outcome.startsWith("throws") || TELLING.contains(method.getName())) {
                        MET.add(method.getName() + " " + outcome);
                        String got = life(yard, order == 1);
                        Due.report(name + ", then " + method.getName() + List.of(row) + ", " + outcome
                            + ": it goes on", got.equals(want[order]) ? "the same"
                            : firstDifference(got, want[order]), "the same");
                    }
                }
            }
        }
    }

    private static String firstDifference(String got, String want) {
        int at = 0;
        while (at < got.length() && at < want.length() && got.charAt(at) == want.charAt(at)) {
            at++;
        }
        int line = got.lastIndexOf('\n', Math.max(0, at - 1)) + 1;
        return got.substring(line, Math.min(got.length(), line + 90)) + " <> "
            + want.substring(Math.min(line, want.length()), Math.min(want.length(), line + 90));
    }

    /** Each exception of the face was thrown here at least once by each method that names it. */
    private static void eachExceptionWasMet() {
        for (Method method : Calls.methodsOf(VoussoirYard.class)) {
            for (Class<?> thrown : method.getExceptionTypes()) {
                String one = method.getName() + " throws " + thrown.getName();
                Due.report(one + " was met", "" + MET.contains(one), "true");
            }
        }
    }

    // ---- what becomes of a yard

    /**
     * All that can be told of a yard, and then what it answers to many calls, each of which may change it. There are
     * two orders, since the first calls of one order might hide what the refused call has changed.
     */
    private static String life(VoussoirYard yard, boolean isCentreFirst) {
        StringBuilder text = new StringBuilder();
        tellAll(yard, text);
        if (isCentreFirst) {
            note(yard, text, "setCentre", 777);
            setAll(yard, text);
        } else {
            note(yard, text, "strike");
            note(yard, text, "load", 0, 7);
        }
        note(yard, text, "pass", 1);
        for (int mason = 0; mason < 4; mason++) {
            note(yard, text, "cut", 0, 0, mason);
            note(yard, text, "cut", 1, 1, mason);
            note(yard, text, "cut", 0, 2, mason);
        }
        tellAll(yard, text);
        riseAndFall(yard, text);
        addMore(yard, text);
        tellAll(yard, text);
        return text.toString();
    }

    private static void riseAndFall(VoussoirYard yard, StringBuilder text) {
        note(yard, text, "moveJoint", 0, 0, 0, 0, 4);
        note(yard, text, "moveJoint", 0, 2, 0, 0, 0);
        note(yard, text, "setCentre", 99999);
        setAll(yard, text);
        for (int days = 0; days < 7; days++) {
            note(yard, text, "pass", 5);
            note(yard, text, "grip");
        }
        note(yard, text, "strike");
        note(yard, text, "load", 0, 100);
        tellAll(yard, text);
        note(yard, text, "load", 1, 20000);
        note(yard, text, "setCentre", 99998);
        setAll(yard, text);
    }

    private static void addMore(VoussoirYard yard, StringBuilder text) {
        note(yard, text, "moveJoint", 0, 0, 0, 0, 3);
        note(yard, text, "drawJoint", 20, 0, 20, 20);
        note(yard, text, "setDensity", 3);
        for (int more = 0; more < 7; more++) {
            note(yard, text, "addBlocks", 20, 20, 3, 1, true);
            note(yard, text, "addMason", 50, 1);
            note(yard, text, "cut", 0, more, 3);
        }
    }

    private static void setAll(VoussoirYard yard, StringBuilder text) {
        for (int stone = 0; stone < 9; stone++) {
            for (int place = 0; place < 7; place++) {
                note(yard, text, "set", stone, place);
            }
        }
    }

    private static void tellAll(VoussoirYard yard, StringBuilder text) {
        String[] figures = {"places", "grip", "stands", "spent", "waste", "usedShare", "meanArea", "isSound"};
        for (String figure : figures) {
            note(yard, text, figure);
        }
        for (int place = 0; place < 8; place++) {
            note(yard, text, "area", place);
            note(yard, text, "weight", place);
            note(yard, text, "bestBlock", place);
            note(yard, text, "stoneIn", place);
            note(yard, text, "bears", place, 8);
        }
        for (int grip = 0; grip <= 10; grip += 2) {
            note(yard, text, "thrust", grip);
        }
        for (int kind = 0; kind < 7; kind++) {
            note(yard, text, "blocks", kind);
        }
        for (int stone = 0; stone <= 40; stone++) {
            note(yard, text, "readyOn", stone);
            note(yard, text, "stateOf", stone);
            note(yard, text, "mark", stone);
            note(yard, text, "fits", stone, stone % 7);
            note(yard, text, "markAt", stone, 3);
            note(yard, text, "markAt", stone, 5);
        }
    }

    private static void note(VoussoirYard yard, StringBuilder text, String name, Object... arguments) {
        text.append(name).append(List.of(arguments)).append(' ');
        text.append(Calls.outcome(yard, name, arguments)).append('\n');
    }
}
