import java.util.NoSuchElementException;

/** A yard for arches of stone, from the drawing to the arch that stands or falls. */
public final class VoussoirYard {
    private static final int MOST_JOINTS = 8;
    private static final int MOST_COORDINATE = 20;
    private static final int MOST_DENSITY = 3;
    private static final int LEAST_GRIP = 3;
    private static final int GREATEST_MORTAR_GRIP = 8;
    private static final int GREATEST_GRIP = 10;
    private static final int DAYS_FOR_MORE_GRIP = 5;
    private static final int MOST_LOAD = 20000;
    private static final int FIRST_LOAD_STEP = 16384;
    private static final int MOST_KINDS = 6;
    private static final int MOST_SIZE = 20;
    private static final int MOST_BLOCKS = 99;
    private static final int MOST_PRICE = 999;
    private static final int MOST_MASONS = 4;
    private static final int MOST_SKILL = 99;
    private static final int MOST_PAY = 9;
    private static final int MOST_STONES = 40;
    private static final int MOST_STRENGTH = 99999;
    private static final int MOST_DAYS = 99;
    private static final int DAYS_OF_YEAR = 120;
    private static final int DAYS_WITHOUT_FROST = 90;
    private static final int EMPTY = -1;
    private static final int NO_CENTRE = 0;
    private static final char IS_CUT = 'c';
    private static final char IN_YARD = 'y';
    private static final char IS_SET = 's';
    private static final char IS_BROKEN = 'b';

    private final Drawing drawing = new Drawing();
    private final ThrustSearch search = new ThrustSearch();
    private final BlockKind[] kinds = new BlockKind[MOST_KINDS];
    private final Mason[] masons = new Mason[MOST_MASONS];
    private final Stone[] stones = new Stone[MOST_STONES];
    private final int[] stoneOfPlace = new int[MOST_JOINTS];
    private final int[] loadOfPlace = new int[MOST_JOINTS];
    private final int[] triedLoads = new int[MOST_JOINTS];
    private int kindCount = 0;
    private int masonCount = 0;
    private int stoneCount = 0;
    private int centreStrength = NO_CENTRE;
    private boolean isStanding = false;
    private int today = 0;
    private int lastSetDay = 0;
    private long moneySpent = 0;

    public VoussoirYard() {
        for (int place = 0; place < stoneOfPlace.length; place++) {
            stoneOfPlace[place] = EMPTY;
        }
    }

    // ---- the drawing

    public int drawJoint(int innerX, int innerY, int outerX, int outerY)
            throws IllegalArgumentException, UnsupportedOperationException, IllegalStateException {
        int joint = drawing.count;
        if (!isOnPaper(innerX, innerY) || !isOnPaper(outerX, outerY)) {
            throw new IllegalArgumentException("a number is out of range");
        }
        drawing.propose(innerX, innerY, outerX, outerY);
        if (!drawing.allowsProposal(joint)) {
            throw new IllegalArgumentException("the joint has no length or a place would not turn to the left");
        }
        if (filledPlaces() > 0) {
            throw new UnsupportedOperationException("a stone is set");
        }
        if (joint >= MOST_JOINTS) {
            throw new IllegalStateException("there are 8 joints");
        }
        drawing.acceptNewJoint();
        return joint;
    }

    public int moveJoint(int joint, int innerX, int innerY, int outerX, int outerY)
            throws IndexOutOfBoundsException, IllegalArgumentException, UnsupportedOperationException {
        if (drawing.jointAt(joint) == null) {
            throw new IndexOutOfBoundsException("there is no such joint");
        }
        if (!isOnPaper(innerX, innerY) || !isOnPaper(outerX, outerY)) {
            throw new IllegalArgumentException("a number is out of range");
        }
        drawing.propose(innerX, innerY, outerX, outerY);
        if (!drawing.allowsProposal(joint)) {
            throw new IllegalArgumentException("the joint has no length or a place would not turn to the left");
        }
        if (isFilled(joint - 1) || isFilled(joint)) {
            throw new UnsupportedOperationException("a place beside the joint is filled");
        }
        drawing.acceptMovedJoint(joint);
        return drawing.version;
    }

    public int setDensity(int density) throws IllegalArgumentException, UnsupportedOperationException {
        if (density < 1 || density > MOST_DENSITY) {
            throw new IllegalArgumentException("the density is out of range");
        }
        if (filledPlaces() > 0) {
            throw new UnsupportedOperationException("a stone is set");
        }
        int before = drawing.density;
        drawing.density = density;
        return before;
    }

    public int places() {
        return drawing.placeCount();
    }

    public int area(int place) throws IndexOutOfBoundsException {
        if (!drawing.hasPlace(place)) {
            throw new IndexOutOfBoundsException("there is no such place");
        }
        return drawing.areaOf(place);
    }

    public int weight(int place) throws IndexOutOfBoundsException {
        if (!drawing.hasPlace(place)) {
            throw new IndexOutOfBoundsException("there is no such place");
        }
        return drawing.weightOf(place);
    }

    private static boolean isOnPaper(int x, int y) {
        return x >= 0 && x <= MOST_COORDINATE && y >= 0 && y <= MOST_COORDINATE;
    }

    // ---- thrust

    public boolean isSafe(int grip) throws IllegalArgumentException, NoSuchElementException {
        if (!isGrip(grip)) {
            throw new IllegalArgumentException("the grip is out of range");
        }
        if (drawing.placeCount() < 2) {
            throw new NoSuchElementException("there are less than 2 places");
        }
        return search.finds(drawing, loadOfPlace, grip);
    }

    public long thrust(int grip) throws IllegalArgumentException, NoSuchElementException {
        if (!isGrip(grip)) {
            throw new IllegalArgumentException("the grip is out of range");
        }
        if (drawing.placeCount() < 2) {
            throw new NoSuchElementException("there are less than 2 places");
        }
        if (!search.finds(drawing, loadOfPlace, grip)) {
            throw new NoSuchElementException("the arch would not be safe");
        }
        return search.leastThrustRoundedUp();
    }

    public int bears(int place, int grip)
            throws IndexOutOfBoundsException, IllegalArgumentException, NoSuchElementException {
        if (!drawing.hasPlace(place)) {
            throw new IndexOutOfBoundsException("there is no such place");
        }
        if (!isGrip(grip)) {
            throw new IllegalArgumentException("the grip is out of range");
        }
        if (drawing.placeCount() < 2) {
            throw new NoSuchElementException("there are less than 2 places");
        }
        if (!wouldBear(place, 0, grip)) {
            throw new NoSuchElementException("the arch would not be safe with the load 0");
        }
        // the steps may halve: all conditions are linear in the load too, so what is safe with 0
        // and with a load is safe with all between
        int greatest = 0;
        for (int step = FIRST_LOAD_STEP; step > 0; step /= 2) {
            if (greatest + step <= MOST_LOAD && wouldBear(place, greatest + step, grip)) {
                greatest += step;
            }
        }
        return greatest;
    }

    public int grip() {
        if (!isWholeArchFilled()) {
            return LEAST_GRIP;
        }
        int days = frostFreeDaysBefore(today) - frostFreeDaysBefore(lastSetDay);
        return Math.min(GREATEST_MORTAR_GRIP, LEAST_GRIP + days / DAYS_FOR_MORE_GRIP);
    }

    private static boolean isGrip(int grip) {
        return grip >= 0 && grip <= GREATEST_GRIP;
    }

    private boolean wouldBear(int place, int load, int grip) {
        System.arraycopy(loadOfPlace, 0, triedLoads, 0, MOST_JOINTS);
        if (place >= 0 && place < triedLoads.length) {
            triedLoads[place] = load;
        }
        return search.finds(drawing, triedLoads, grip);
    }

    // ---- quarry and masons

    public int addBlocks(int width, int height, int many, int price, boolean isBedded)
            throws IllegalArgumentException, IllegalStateException {
        if (!isBetween(width, 1, MOST_SIZE) || !isBetween(height, 1, MOST_SIZE)
                || !isBetween(many, 1, MOST_BLOCKS) || !isBetween(price, 0, MOST_PRICE)) {
            throw new IllegalArgumentException("a number is out of range");
        }
        if (kindCount >= kinds.length) {
            throw new IllegalStateException("there are 6 kinds");
        }
        kinds[kindCount] = new BlockKind(width, height, many, price, isBedded);
        return kindCount++;
    }

    public int blocks(int kind) throws IndexOutOfBoundsException {
        BlockKind asked = kindAt(kind);
        if (asked == null) {
            throw new IndexOutOfBoundsException("there is no such kind");
        }
        return asked.left;
    }

    public int bestBlock(int place) throws IndexOutOfBoundsException, NoSuchElementException {
        Quad shape = drawing.quadOf(place);
        if (shape == null) {
            throw new IndexOutOfBoundsException("there is no such place");
        }
        int best = EMPTY;
        int bestArea = 0;
        for (int kind = 0; kind < kindCount; kind++) {
            BlockKind tried = kindAt(kind);
            // of two blocks for the same stone the smaller one wastes less
            if (tried != null && tried.canGive(shape) && (best == EMPTY || tried.doubledArea() < bestArea)) {
                best = kind;
                bestArea = tried.doubledArea();
            }
        }
        if (best == EMPTY) {
            throw new NoSuchElementException("the place can be cut from no block that there is");
        }
        return best;
    }

    public int addMason(int skill, int pay) throws IllegalArgumentException, IllegalStateException {
        if (!isBetween(skill, 1, MOST_SKILL) || !isBetween(pay, 0, MOST_PAY)) {
            throw new IllegalArgumentException("a number is out of range");
        }
        if (masonCount >= masons.length) {
            throw new IllegalStateException("there are 4 masons");
        }
        masons[masonCount] = new Mason((char) ('A' + masonCount), skill, pay);
        return masonCount++;
    }

    public int cut(int place, int kind, int mason)
            throws IndexOutOfBoundsException, UnsupportedOperationException, IllegalStateException {
        Quad shape = drawing.quadOf(place);
        BlockKind block = kindAt(kind);
        Mason worker = masonAt(mason);
        if (shape == null || block == null || worker == null) {
            throw new IndexOutOfBoundsException("there is no such place, kind or mason");
        }
        if (!block.canGive(shape)) {
            throw new UnsupportedOperationException("there is no such block left, or the place cannot be cut from it");
        }
        if (stoneCount >= stones.length) {
            throw new IllegalStateException("there are 40 stones");
        }
        int area = shape.doubledArea();
        String mark = worker.markFor(place, drawing.version);
        stones[stoneCount] = new Stone(shape, block.doubledArea(), worker.finish(area, today), mark);
        block.left--;
        moneySpent += block.price + (long) worker.pay * area;
        return stoneCount++;
    }

    private static boolean isBetween(int number, int least, int greatest) {
        return number >= least && number <= greatest;
    }

    private BlockKind kindAt(int kind) {
        return kind >= 0 && kind < kindCount && kind < kinds.length ? kinds[kind] : null;
    }

    private Mason masonAt(int mason) {
        return mason >= 0 && mason < masonCount && mason < masons.length ? masons[mason] : null;
    }

    // ---- stones

    public int readyOn(int stone) throws IndexOutOfBoundsException {
        Stone asked = stoneAt(stone);
        if (asked == null) {
            throw new IndexOutOfBoundsException("there is no such stone");
        }
        return asked.readyDay;
    }

    public char stateOf(int stone) throws IndexOutOfBoundsException {
        Stone asked = stoneAt(stone);
        if (asked == null) {
            throw new IndexOutOfBoundsException("there is no such stone");
        }
        return asked.stateAt(today);
    }

    public int mark(int stone) throws IndexOutOfBoundsException {
        Stone asked = stoneAt(stone);
        if (asked == null) {
            throw new IndexOutOfBoundsException("there is no such stone");
        }
        return asked.markText.length();
    }

    public char markAt(int stone, int index) throws IndexOutOfBoundsException {
        Stone asked = stoneAt(stone);
        if (asked == null) {
            throw new IndexOutOfBoundsException("there is no such stone");
        }
        if (index < 0 || index >= asked.markText.length()) {
            throw new IndexOutOfBoundsException("there is no sign there");
        }
        return asked.markText.charAt(index);
    }

    public boolean fits(int stone, int place) throws IndexOutOfBoundsException {
        Stone asked = stoneAt(stone);
        Quad shape = drawing.quadOf(place);
        if (asked == null || shape == null) {
            throw new IndexOutOfBoundsException("there is no such stone or place");
        }
        return asked.shape.looksLike(shape);
    }

    public int setCentre(int strength) throws IllegalArgumentException, UnsupportedOperationException {
        if (!isBetween(strength, 1, MOST_STRENGTH)) {
            throw new IllegalArgumentException("the strength is out of range");
        }
        if (centreStrength != NO_CENTRE || isStanding) {
            throw new UnsupportedOperationException("there is a centre, or the arch stands");
        }
        centreStrength = strength;
        return drawing.weightOfAll();
    }

    public int set(int stone, int place)
            throws IndexOutOfBoundsException, IllegalArgumentException, UnsupportedOperationException {
        Stone chosen = stoneAt(stone);
        Quad shape = drawing.quadOf(place);
        if (chosen == null || shape == null) {
            throw new IndexOutOfBoundsException("there is no such stone or place");
        }
        if (!chosen.shape.looksLike(shape)) {
            throw new IllegalArgumentException("the stone does not fit");
        }
        if (chosen.stateAt(today) != IN_YARD || !canBeFilled(place) || !centreWouldBear(place)) {
            throw new UnsupportedOperationException("the stone, the place or the centre is not fit for it");
        }
        if (place >= 0 && place < stoneOfPlace.length) {
            stoneOfPlace[place] = stone;
        }
        chosen.state = IS_SET;
        lastSetDay = today;
        return filledPlaces();
    }

    public int stoneIn(int place) throws IndexOutOfBoundsException, NoSuchElementException {
        if (!drawing.hasPlace(place)) {
            throw new IndexOutOfBoundsException("there is no such place");
        }
        int stone = stoneOf(place);
        if (stone == EMPTY) {
            throw new NoSuchElementException("the place is empty");
        }
        return stone;
    }

    public long strike() throws UnsupportedOperationException, IllegalStateException {
        if (centreStrength == NO_CENTRE || !isWholeArchFilled() || drawing.placeCount() < 2) {
            throw new UnsupportedOperationException("there is no centre, or not all places are filled, or too few");
        }
        if (!isSafeWithMortar()) {
            throw new IllegalStateException("the arch is not safe");
        }
        long least = search.leastThrustRoundedUp();
        centreStrength = NO_CENTRE;
        isStanding = true;
        return least;
    }

    public boolean load(int place, int load)
            throws IndexOutOfBoundsException, IllegalArgumentException, UnsupportedOperationException {
        if (!drawing.hasPlace(place)) {
            throw new IndexOutOfBoundsException("there is no such place");
        }
        if (!isBetween(load, 0, MOST_LOAD)) {
            throw new IllegalArgumentException("the load is out of range");
        }
        if (!isStanding) {
            throw new UnsupportedOperationException("the arch does not stand");
        }
        if (place >= 0 && place < loadOfPlace.length) {
            loadOfPlace[place] = load;
        }
        if (!isSafeWithMortar()) {
            fall();
        }
        return isStanding;
    }

    public boolean stands() {
        return isStanding;
    }

    public int pass(int days) throws IllegalArgumentException {
        if (!isBetween(days, 1, MOST_DAYS)) {
            throw new IllegalArgumentException("the number of days is out of range");
        }
        today += days;
        return today;
    }

    private Stone stoneAt(int stone) {
        return stone >= 0 && stone < stoneCount && stone < stones.length ? stones[stone] : null;
    }

    private int stoneOf(int place) {
        return place >= 0 && place < stoneOfPlace.length ? stoneOfPlace[place] : EMPTY;
    }

    private boolean isFilled(int place) {
        return stoneOf(place) != EMPTY;
    }

    private int filledPlaces() {
        int filled = 0;
        for (int place = 0; place < stoneOfPlace.length; place++) {
            if (stoneOfPlace[place] != EMPTY) {
                filled++;
            }
        }
        return filled;
    }

    private boolean isWholeArchFilled() {
        return drawing.placeCount() > 0 && filledPlaces() == drawing.placeCount();
    }

    private boolean canBeFilled(int place) {
        boolean isAtAnEnd = place == 0 || place == drawing.placeCount() - 1;
        return !isFilled(place) && (isAtAnEnd || isFilled(place - 1) || isFilled(place + 1));
    }

    private boolean centreWouldBear(int place) {
        int carried = drawing.weightOf(place);
        for (int other = 0; other < drawing.placeCount(); other++) {
            if (isFilled(other)) {
                carried += drawing.weightOf(other);
            }
        }
        return centreStrength != NO_CENTRE && carried <= centreStrength;
    }

    private boolean isSafeWithMortar() {
        return search.finds(drawing, loadOfPlace, grip());
    }

    private void fall() {
        for (int place = 0; place < stoneOfPlace.length && place < loadOfPlace.length; place++) {
            Stone fallen = stoneAt(stoneOfPlace[place]);
            if (fallen != null) {
                fallen.state = IS_BROKEN;
            }
            stoneOfPlace[place] = EMPTY;
            loadOfPlace[place] = 0;
        }
        centreStrength = NO_CENTRE;
        isStanding = false;
    }

    // ---- figures

    public long spent() {
        return moneySpent;
    }

    public int waste() {
        return areaOfUsedBlocks() - areaOfStones();
    }

    public float usedShare() throws ArithmeticException {
        int blockArea = areaOfUsedBlocks();
        if (blockArea <= 0) {
            throw new ArithmeticException("no block was cut");
        }
        return (float) areaOfStones() / (float) blockArea;
    }

    public double meanArea() throws ArithmeticException {
        int count = drawing.placeCount();
        if (count <= 0) {
            throw new ArithmeticException("there are no places");
        }
        return (double) drawing.areaOfAll() / (double) count;
    }

    public boolean isSound() {
        return drawing.areaOfAll() == drawing.areaGoneRound()
                && areSetStonesFitting()
                && (!isStanding || isSafeWithMortar());
    }

    private int areaOfUsedBlocks() {
        int sum = 0;
        for (int stone = 0; stone < stoneCount; stone++) {
            Stone cutStone = stoneAt(stone);
            if (cutStone != null) {
                sum += cutStone.blockArea;
            }
        }
        return sum;
    }

    private int areaOfStones() {
        int sum = 0;
        for (int stone = 0; stone < stoneCount; stone++) {
            Stone cutStone = stoneAt(stone);
            if (cutStone != null) {
                sum += cutStone.shape.doubledArea();
            }
        }
        return sum;
    }

    private boolean areSetStonesFitting() {
        for (int place = 0; place < drawing.placeCount(); place++) {
            Stone stone = stoneAt(stoneOf(place));
            Quad shape = drawing.quadOf(place);
            if (stone != null && shape != null && !stone.shape.looksLike(shape)) {
                return false;
            }
        }
        return true;
    }

    // ---- the year

    private static int frostFreeDaysBefore(int day) {
        int inFullYears = day / DAYS_OF_YEAR * DAYS_WITHOUT_FROST;
        return inFullYears + Math.min(day % DAYS_OF_YEAR, DAYS_WITHOUT_FROST);
    }

    /** The day behind the last day without frost of a work that begins on the given day. */
    private static int dayBehindWork(int begin, int workDays) {
        int daysBeforeLast = frostFreeDaysBefore(begin) + workDays - 1;
        int lastDay = daysBeforeLast / DAYS_WITHOUT_FROST * DAYS_OF_YEAR + daysBeforeLast % DAYS_WITHOUT_FROST;
        return lastDay + 1;
    }

    private static final class Joint {
        int innerX = 0;
        int innerY = 0;
        int outerX = 0;
        int outerY = 0;

        void moveTo(int newInnerX, int newInnerY, int newOuterX, int newOuterY) {
            innerX = newInnerX;
            innerY = newInnerY;
            outerX = newOuterX;
            outerY = newOuterY;
        }

        boolean hasLength() {
            return innerX != outerX || innerY != outerY;
        }
    }

    /** Four corners, gone round to the left from the inner point of the left joint. */
    private static final class Quad {
        private static final int CORNERS = 4;
        final int[] x = new int[CORNERS];
        final int[] y = new int[CORNERS];

        void stretch(Joint left, Joint right) {
            x[0] = left.innerX;
            y[0] = left.innerY;
            x[1] = right.innerX;
            y[1] = right.innerY;
            x[2] = right.outerX;
            y[2] = right.outerY;
            x[3] = left.outerX;
            y[3] = left.outerY;
        }

        void copyFrom(Quad other) {
            for (int corner = 0; corner < CORNERS; corner++) {
                x[corner] = other.x[corner];
                y[corner] = other.y[corner];
            }
        }

        boolean turnsLeftEverywhere() {
            for (int corner = 0; corner < CORNERS; corner++) {
                int next = (corner + 1) % CORNERS;
                int afterNext = (corner + 2) % CORNERS;
                int turn = cross(x[next] - x[corner], y[next] - y[corner],
                        x[afterNext] - x[next], y[afterNext] - y[next]);
                if (turn <= 0) {
                    return false;
                }
            }
            return true;
        }

        int doubledArea() {
            int sum = 0;
            for (int corner = 0; corner < CORNERS; corner++) {
                int next = (corner + 1) % CORNERS;
                sum += cross(x[corner], y[corner], x[next], y[next]);
            }
            return sum;
        }

        /** The weight at the density 1. */
        int lightWeight() {
            return 3 * doubledArea();
        }

        /** The weight at the density 1, times the x of the centre of gravity: a whole number. */
        int lightMoment() {
            int sum = 0;
            for (int corner = 0; corner < CORNERS; corner++) {
                int next = (corner + 1) % CORNERS;
                sum += (x[corner] + x[next]) * cross(x[corner], y[corner], x[next], y[next]);
            }
            return sum;
        }

        int widest() {
            return greatestDifference(x);
        }

        int highest() {
            return greatestDifference(y);
        }

        private static int greatestDifference(int[] numbers) {
            int greatest = 0;
            for (int one : numbers) {
                for (int other : numbers) {
                    greatest = Math.max(greatest, one - other);
                }
            }
            return greatest;
        }

        boolean looksLike(Quad other) {
            for (int corner = 1; corner < CORNERS; corner++) {
                if (x[corner] - x[0] != other.x[corner] - other.x[0]
                        || y[corner] - y[0] != other.y[corner] - other.y[0]) {
                    return false;
                }
            }
            return true;
        }
    }

    private static int cross(int ax, int ay, int bx, int by) {
        return ax * by - ay * bx;
    }

    /** The joints from the left to the right, and what lies between them. */
    private static final class Drawing {
        private final Joint[] joints = new Joint[MOST_JOINTS];
        private final Joint proposed = new Joint();
        private final Quad quad = new Quad();
        int count = 0;
        int version = 0;
        int density = 1;

        Drawing() {
            for (int joint = 0; joint < MOST_JOINTS; joint++) {
                joints[joint] = new Joint();
            }
        }

        Joint jointAt(int joint) {
            return joint >= 0 && joint < count && joint < joints.length ? joints[joint] : null;
        }

        int placeCount() {
            return Math.max(0, count - 1);
        }

        boolean hasPlace(int place) {
            return place >= 0 && place < placeCount();
        }

        void propose(int innerX, int innerY, int outerX, int outerY) {
            proposed.moveTo(innerX, innerY, outerX, outerY);
        }

        /** Whether the proposed joint has a length and the places beside it would turn to the left. */
        boolean allowsProposal(int joint) {
            return proposed.hasLength()
                    && wouldTurnLeft(jointAt(joint - 1), proposed)
                    && wouldTurnLeft(proposed, jointAt(joint + 1));
        }

        private boolean wouldTurnLeft(Joint left, Joint right) {
            if (left == null || right == null) {
                // beyond an end there is no place that could turn wrongly
                return true;
            }
            quad.stretch(left, right);
            return quad.turnsLeftEverywhere();
        }

        void acceptNewJoint() {
            if (count < joints.length) {
                count++;
                acceptMovedJoint(count - 1);
            }
        }

        void acceptMovedJoint(int joint) {
            Joint moved = jointAt(joint);
            if (moved != null) {
                moved.moveTo(proposed.innerX, proposed.innerY, proposed.outerX, proposed.outerY);
                version++;
            }
        }

        /** The corners of a place, to be used before the next one is asked for; null if there is none. */
        Quad quadOf(int place) {
            Joint left = jointAt(place);
            Joint right = left == null ? null : jointAt(place + 1);
            if (left == null || right == null) {
                return null;
            }
            quad.stretch(left, right);
            return quad;
        }

        int areaOf(int place) {
            Quad shape = quadOf(place);
            return shape == null ? 0 : shape.doubledArea();
        }

        int weightOf(int place) {
            Quad shape = quadOf(place);
            return shape == null ? 0 : shape.lightWeight() * density;
        }

        int areaOfAll() {
            int sum = 0;
            for (int place = 0; place < placeCount(); place++) {
                sum += areaOf(place);
            }
            return sum;
        }

        int weightOfAll() {
            int sum = 0;
            for (int place = 0; place < placeCount(); place++) {
                sum += weightOf(place);
            }
            return sum;
        }

        /** The doubled area along the inner points and back along the outer ones. */
        int areaGoneRound() {
            int sum = 0;
            for (int joint = 0; joint < count; joint++) {
                Joint here = jointAt(joint);
                Joint next = jointAt(joint + 1);
                if (here != null && next != null) {
                    sum += cross(here.innerX, here.innerY, next.innerX, next.innerY);
                    sum += cross(next.outerX, next.outerY, here.outerX, here.outerY);
                }
            }
            Joint first = jointAt(0);
            Joint last = jointAt(count - 1);
            if (first != null && last != null) {
                sum += cross(last.innerX, last.innerY, last.outerX, last.outerY);
                sum += cross(first.outerX, first.outerY, first.innerX, first.innerY);
            }
            return sum;
        }
    }

    private static final class BlockKind {
        final int width;
        final int height;
        final int price;
        final boolean isBedded;
        int left;

        BlockKind(int width, int height, int many, int price, boolean isBedded) {
            this.width = width;
            this.height = height;
            this.left = many;
            this.price = price;
            this.isBedded = isBedded;
        }

        int doubledArea() {
            return 2 * width * height;
        }

        boolean canGive(Quad shape) {
            int wide = shape.widest();
            int high = shape.highest();
            boolean isUpright = wide <= width && high <= height;
            boolean isTurned = !isBedded && wide <= height && high <= width;
            return left > 0 && (isUpright || isTurned);
        }
    }

    private static final class Mason {
        final char letter;
        final int skill;
        final int pay;
        private int freeOn = 0;
        private int told = 0;

        Mason(char letter, int skill, int pay) {
            this.letter = letter;
            this.skill = skill;
            this.pay = pay;
        }

        String markFor(int place, int version) {
            StringBuilder text = new StringBuilder();
            text.append(letter);
            text.append(place);
            text.append('v');
            text.append(version);
            text.append('-');
            text.append(told);
            return text.toString();
        }

        /** Takes a stone behind those told ahead; returns the day on which it is ready. */
        int finish(int area, int today) {
            int workDays = skill > 0 ? (area + skill - 1) / skill : area;
            freeOn = dayBehindWork(Math.max(today, freeOn), workDays);
            told++;
            return freeOn;
        }
    }

    private static final class Stone {
        final Quad shape = new Quad();
        final int blockArea;
        final int readyDay;
        final String markText;
        char state = IN_YARD;

        Stone(Quad drawn, int blockArea, int readyDay, String markText) {
            shape.copyFrom(drawn);
            this.blockArea = blockArea;
            this.readyDay = readyDay;
            this.markText = markText;
        }

        char stateAt(int day) {
            return state == IN_YARD && day < readyDay ? IS_CUT : state;
        }
    }

    /**
     * Looks for the least H of a safe arch, in whole numbers. Every joint asks for conditions
     * that are linear in H, in V and in the moment M of the force at the first joint (M fixes
     * its line). M is taken out by pairing its bounds, then V likewise; bounds for H are left.
     *
     * With loads of 20000 no number here gets beyond some 3e16, so long is wide enough.
     */
    private static final class ThrustSearch {
        private static final int MOST_CONDITIONS = MOST_JOINTS * MOST_JOINTS + 2 * MOST_JOINTS;
        // each condition: perH * H + perV * V + rest >= 0
        private final long[] perH = new long[MOST_CONDITIONS];
        private final long[] perV = new long[MOST_CONDITIONS];
        private final long[] rest = new long[MOST_CONDITIONS];
        private int conditions = 0;
        // by how much the part upwards and the moment at each joint are less than at the first
        private final long[] lostForce = new long[MOST_JOINTS];
        private final long[] lostMoment = new long[MOST_JOINTS];
        // bounds for H as fractions with a divisor above 0; the divisor 0 means no bound
        private long leastTop = 0;
        private long leastDivisor = 1;
        private long mostTop = 0;
        private long mostDivisor = 0;
        private boolean isPossible = true;

        boolean finds(Drawing drawing, int[] loads, int grip) {
            sumWeights(drawing, loads);
            conditions = 0;
            for (int joint = 0; joint < drawing.count; joint++) {
                addLines(drawing, joint);
                addGrip(drawing.jointAt(joint), joint, grip);
            }
            takeOutV();
            return isPossible && (mostDivisor == 0 || leastTop * mostDivisor <= mostTop * leastDivisor);
        }

        long leastThrustRoundedUp() {
            return leastDivisor > 0 ? (leastTop + leastDivisor - 1) / leastDivisor : 0;
        }

        private void sumWeights(Drawing drawing, int[] loads) {
            long force = 0;
            long moment = 0;
            for (int joint = 0; joint < MOST_JOINTS && joint < loads.length; joint++) {
                lostForce[joint] = force;
                lostMoment[joint] = moment;
                Joint left = drawing.jointAt(joint);
                Quad shape = drawing.quadOf(joint);
                if (left != null && shape != null) {
                    force += shape.lightWeight() * drawing.density + loads[joint];
                    moment += shape.lightMoment() * drawing.density + loads[joint] * left.outerX;
                }
            }
        }

        /**
         * The line passes on the outer side of each inner point, a bound of M from above, and on
         * the inner side of each outer point, one from below. The two points of the same joint
         * give that the force does not pull there.
         */
        private void addLines(Drawing drawing, int joint) {
            Joint above = drawing.jointAt(joint);
            for (int other = 0; other < drawing.count; other++) {
                Joint below = drawing.jointAt(other);
                if (above != null && below != null) {
                    addCondition(below.outerY - above.innerY, above.innerX - below.outerX,
                            momentAgainst(joint, above.innerX) - momentAgainst(other, below.outerX));
                }
            }
        }

        private long momentAgainst(int joint, int x) {
            boolean isJoint = joint >= 0 && joint < MOST_JOINTS;
            return isJoint ? lostMoment[joint] - x * lostForce[joint] : 0;
        }

        private void addGrip(Joint at, int joint, int grip) {
            if (at == null || joint < 0 || joint >= MOST_JOINTS) {
                return;
            }
            int alongX = at.outerX - at.innerX;
            int alongY = at.outerY - at.innerY;
            long lost = lostForce[joint];
            for (int way = -10; way <= 10; way += 20) {
                int forH = grip * alongY + way * alongX;
                int forV = way * alongY - grip * alongX;
                addCondition(forH, forV, -forV * lost);
            }
        }

        private void addCondition(long forH, long forV, long alone) {
            if (conditions < MOST_CONDITIONS) {
                perH[conditions] = forH;
                perV[conditions] = forV;
                rest[conditions] = alone;
                conditions++;
            }
        }

        private void takeOutV() {
            leastTop = 0;
            leastDivisor = 1;
            mostTop = 0;
            mostDivisor = 0;
            isPossible = true;
            for (int one = 0; one < conditions && one < MOST_CONDITIONS; one++) {
                if (perV[one] == 0) {
                    boundH(perH[one], rest[one]);
                } else if (perV[one] > 0) {
                    pairWithBoundsFromAbove(one);
                }
            }
        }

        private void pairWithBoundsFromAbove(int below) {
            if (below < 0 || below >= MOST_CONDITIONS) {
                return;
            }
            for (int above = 0; above < conditions && above < MOST_CONDITIONS; above++) {
                if (perV[above] < 0) {
                    boundH(perV[below] * perH[above] - perV[above] * perH[below],
                            perV[below] * rest[above] - perV[above] * rest[below]);
                }
            }
        }

        /** Keeps H where forH * H + alone is 0 or more. */
        private void boundH(long forH, long alone) {
            if (forH > 0 && -alone * leastDivisor > leastTop * forH) {
                leastTop = -alone;
                leastDivisor = forH;
            } else if (forH < 0 && (mostDivisor == 0 || alone * mostDivisor < mostTop * -forH)) {
                mostTop = alone;
                mostDivisor = -forH;
            } else if (forH == 0 && alone < 0) {
                isPossible = false;
            }
        }
    }
}
