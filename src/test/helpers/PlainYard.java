import java.util.ArrayList;
import java.util.List;
import java.util.NoSuchElementException;

/** The document once more, day by day and with the CornerOracle: slow, and written apart from the class. */
public final class PlainYard {
    private final List<int[]> joints = new ArrayList<>();
    private final List<int[]> kinds = new ArrayList<>();
    private final List<int[]> masons = new ArrayList<>();
    private final List<Stone> stones = new ArrayList<>();
    private final int[] inPlace = {-1, -1, -1, -1, -1, -1, -1};
    private int[] loads = new int[7];
    private int version;
    private int density = 1;
    private int day;
    private int lastSet;
    private int centre;
    private boolean stands;
    private long spent;
    private int blockAreas;
    private int stoneAreas;

    private static final class Stone {
        String corners;
        String mark;
        int ready;
        boolean isBroken;
    }

    private static void demand(boolean holds, RuntimeException otherwise) {
        if (!holds) {
            throw otherwise;
        }
    }

    private static boolean in(int number, int low, int high) {
        return low <= number && number <= high;
    }

    private static boolean left(int ax, int ay, int bx, int by, int cx, int cy) {
        return (bx - ax) * (cy - ay) > (by - ay) * (cx - ax);
    }

    private static boolean turnsLeft(int[] l, int[] r) {
        return left(l[0], l[1], r[0], r[1], r[2], r[3]) && left(r[0], r[1], r[2], r[3], l[2], l[3])
            && left(r[2], r[3], l[2], l[3], l[0], l[1]) && left(l[2], l[3], l[0], l[1], r[0], r[1]);
    }

    private void demandJoint(List<int[]> row, int[] joint) {
        for (int number : joint) {
            demand(in(number, 0, 20), new IllegalArgumentException());
        }
        demand(joint[0] != joint[2] || joint[1] != joint[3], new IllegalArgumentException());
        for (int p = 0; p + 1 < row.size(); p++) {
            demand(turnsLeft(row.get(p), row.get(p + 1)), new IllegalArgumentException());
        }
    }

    public int drawJoint(int innerX, int innerY, int outerX, int outerY) {
        int[] joint = {innerX, innerY, outerX, outerY};
        List<int[]> row = new ArrayList<>(joints);
        row.add(joint);
        demandJoint(row, joint);
        demand(filled() == 0, new UnsupportedOperationException());
        demand(joints.size() < 8, new IllegalStateException());
        joints.add(joint);
        version++;
        return joints.size() - 1;
    }

    public int moveJoint(int j, int innerX, int innerY, int outerX, int outerY) {
        demand(in(j, 0, joints.size() - 1), new IndexOutOfBoundsException());
        int[] joint = {innerX, innerY, outerX, outerY};
        List<int[]> row = new ArrayList<>(joints);
        row.set(j, joint);
        demandJoint(row, joint);
        demand((j == 0 || inPlace[j - 1] < 0) && (j > 6 || inPlace[j] < 0), new UnsupportedOperationException());
        joints.set(j, joint);
        return ++version;
    }

    public int setDensity(int d) {
        demand(in(d, 1, 3), new IllegalArgumentException());
        demand(filled() == 0, new UnsupportedOperationException());
        int before = density;
        density = d;
        return before;
    }

    public int places() {
        return joints.isEmpty() ? 0 : joints.size() - 1;
    }

    private void demandPlace(int place) {
        demand(in(place, 0, places() - 1), new IndexOutOfBoundsException());
    }

    public int area(int place) {
        demandPlace(place);
        int[] l = joints.get(place);
        int[] r = joints.get(place + 1);
        // the doubled area of a quad is the cross product of its diagonals
        return (r[2] - l[0]) * (l[3] - r[1]) - (r[3] - l[1]) * (l[2] - r[0]);
    }

    public int weight(int place) {
        return area(place) * 3 * density;
    }

    private CornerOracle oracle(int[] with, int grip) {
        return new CornerOracle(joints.toArray(new int[0][]), density, with, grip);
    }

    public boolean isSafe(int grip) {
        demand(in(grip, 0, 10), new IllegalArgumentException());
        demand(places() >= 2, new NoSuchElementException());
        return oracle(loads, grip).isSafe();
    }

    public long thrust(int grip) {
        demand(isSafe(grip), new NoSuchElementException());
        return oracle(loads, grip).leastRoundedUp();
    }

    public int bears(int place, int grip) {
        demandPlace(place);
        demand(in(grip, 0, 10), new IllegalArgumentException());
        demand(places() >= 2, new NoSuchElementException());
        int[] with = loads.clone();
        with[place] = 0;
        demand(oracle(with, grip).isSafe(), new NoSuchElementException());
        int safe = 0;
        int unsafe = 20001;
        while (unsafe - safe > 1) {
            with[place] = (safe + unsafe) / 2;
            if (oracle(with, grip).isSafe()) {
                safe = with[place];
            } else {
                unsafe = with[place];
            }
        }
        return safe;
    }

    public int grip() {
        int days = 0;
        for (int d = lastSet; d < day; d++) {
            days += d % 120 < 90 ? 1 : 0;
        }
        boolean isWhole = filled() > 0 && filled() == places();
        return isWhole ? Math.min(8, 3 + days / 5) : 3;
    }

    public int addBlocks(int width, int height, int many, int price, boolean isBedded) {
        demand(in(width, 1, 20) && in(height, 1, 20) && in(many, 1, 99) && in(price, 0, 999),
            new IllegalArgumentException());
        demand(kinds.size() < 6, new IllegalStateException());
        kinds.add(new int[] {width, height, many, price, isBedded ? 1 : 0});
        return kinds.size() - 1;
    }

    public int blocks(int kind) {
        demand(in(kind, 0, kinds.size() - 1), new IndexOutOfBoundsException());
        return kinds.get(kind)[2];
    }

    private int spread(int place, int axis) {
        int[] l = joints.get(place);
        int[] r = joints.get(place + 1);
        int most = Math.max(Math.max(l[axis], l[axis + 2]), Math.max(r[axis], r[axis + 2]));
        int least = Math.min(Math.min(l[axis], l[axis + 2]), Math.min(r[axis], r[axis + 2]));
        return most - least;
    }

    private boolean canCut(int place, int kind) {
        int[] k = kinds.get(kind);
        int w = spread(place, 0);
        int h = spread(place, 1);
        return k[2] > 0 && (w <= k[0] && h <= k[1] || k[4] == 0 && h <= k[0] && w <= k[1]);
    }

    public int bestBlock(int place) {
        demandPlace(place);
        int best = -1;
        int leastWaste = Integer.MAX_VALUE;
        for (int kind = 0; kind < kinds.size(); kind++) {
            int wasted = 2 * kinds.get(kind)[0] * kinds.get(kind)[1] - area(place);
            if (canCut(place, kind) && wasted < leastWaste) {
                best = kind;
                leastWaste = wasted;
            }
        }
        demand(best >= 0, new NoSuchElementException());
        return best;
    }

    public int addMason(int skill, int pay) {
        demand(in(skill, 1, 99) && in(pay, 0, 9), new IllegalArgumentException());
        demand(masons.size() < 4, new IllegalStateException());
        masons.add(new int[] {skill, pay, 0, 0});
        return masons.size() - 1;
    }

    private String corners(int place) {
        int[] l = joints.get(place);
        int[] r = joints.get(place + 1);
        return (r[0] - l[0]) + "," + (r[1] - l[1]) + "," + (r[2] - l[0]) + "," + (r[3] - l[1])
            + "," + (l[2] - l[0]) + "," + (l[3] - l[1]);
    }

    public int cut(int place, int kind, int mason) {
        demandPlace(place);
        demand(in(kind, 0, kinds.size() - 1) && in(mason, 0, masons.size() - 1), new IndexOutOfBoundsException());
        demand(canCut(place, kind), new UnsupportedOperationException());
        demand(stones.size() < 40, new IllegalStateException());
        int[] k = kinds.get(kind);
        int[] m = masons.get(mason);
        Stone stone = new Stone();
        stone.corners = corners(place);
        stone.mark = "ABCD".charAt(mason) + "" + place + "v" + version + "-" + m[3];
        int d = Math.max(day, m[2]);
        for (int still = area(place); still > 0; d++) {
            if (d % 120 < 90) {
                still -= m[0];
            }
        }
        stone.ready = d;
        m[2] = d;
        m[3]++;
        k[2]--;
        spent += k[3] + m[1] * area(place);
        blockAreas += 2 * k[0] * k[1];
        stoneAreas += area(place);
        stones.add(stone);
        return stones.size() - 1;
    }

    private Stone stone(int stone) {
        demand(in(stone, 0, stones.size() - 1), new IndexOutOfBoundsException());
        return stones.get(stone);
    }

    public int readyOn(int stone) {
        return stone(stone).ready;
    }

    public char stateOf(int stone) {
        Stone asked = stone(stone);
        for (int set : inPlace) {
            if (set == stone) {
                return 's';
            }
        }
        return asked.isBroken ? 'b' : day < asked.ready ? 'c' : 'y';
    }

    public int mark(int stone) {
        return stone(stone).mark.length();
    }

    public char markAt(int stone, int index) {
        Stone asked = stone(stone);
        demand(in(index, 0, asked.mark.length() - 1), new IndexOutOfBoundsException());
        return asked.mark.charAt(index);
    }

    public boolean fits(int stone, int place) {
        stone(stone);
        demandPlace(place);
        return stone(stone).corners.equals(corners(place));
    }

    public int setCentre(int strength) {
        demand(in(strength, 1, 99999), new IllegalArgumentException());
        demand(centre == 0 && !stands, new UnsupportedOperationException());
        centre = strength;
        int sum = 0;
        for (int p = 0; p < places(); p++) {
            sum += weight(p);
        }
        return sum;
    }

    private int filled() {
        int count = 0;
        for (int stone : inPlace) {
            count += stone >= 0 ? 1 : 0;
        }
        return count;
    }

    public int set(int stone, int place) {
        demand(fits(stone, place), new IllegalArgumentException());
        demand(stateOf(stone) == 'y', new UnsupportedOperationException());
        demand(inPlace[place] < 0, new UnsupportedOperationException());
        demand(place == 0 || place == places() - 1 || inPlace[place - 1] >= 0 || inPlace[place + 1] >= 0,
            new UnsupportedOperationException());
        demand(centre > 0, new UnsupportedOperationException());
        int sum = weight(place);
        for (int p = 0; p < places(); p++) {
            sum += inPlace[p] < 0 ? 0 : weight(p);
        }
        demand(sum <= centre, new UnsupportedOperationException());
        inPlace[place] = stone;
        lastSet = day;
        return filled();
    }

    public int stoneIn(int place) {
        demandPlace(place);
        demand(inPlace[place] >= 0, new NoSuchElementException());
        return inPlace[place];
    }

    public long strike() {
        demand(centre > 0 && filled() == places() && places() >= 2, new UnsupportedOperationException());
        demand(isSafe(grip()), new IllegalStateException());
        centre = 0;
        stands = true;
        return thrust(grip());
    }

    public boolean load(int place, int load) {
        demandPlace(place);
        demand(in(load, 0, 20000), new IllegalArgumentException());
        demand(stands, new UnsupportedOperationException());
        loads[place] = load;
        if (!isSafe(grip())) {
            for (int p = 0; p < 7; p++) {
                if (inPlace[p] >= 0) {
                    stones.get(inPlace[p]).isBroken = true;
                }
                inPlace[p] = -1;
            }
            loads = new int[7];
            stands = false;
        }
        return stands;
    }

    public boolean stands() {
        return stands;
    }

    public int pass(int days) {
        demand(in(days, 1, 99), new IllegalArgumentException());
        day += days;
        return day;
    }

    public long spent() {
        return spent;
    }

    public int waste() {
        return blockAreas - stoneAreas;
    }

    public float usedShare() {
        demand(blockAreas > 0, new ArithmeticException());
        return (float) stoneAreas / (float) blockAreas;
    }

    public double meanArea() {
        demand(places() > 0, new ArithmeticException());
        double sum = 0;
        for (int p = 0; p < places(); p++) {
            sum += area(p);
        }
        return sum / places();
    }

    public boolean isSound() {
        return true;
    }
}
