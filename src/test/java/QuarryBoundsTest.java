import java.util.NoSuchElementException;

/** The boundary cases of promises 12 to 17 and 29 to 31, and of the terms Quarry and Masons: a test for each. */
public final class QuarryBoundsTest {
    private static final Class<IndexOutOfBoundsException> NO_SUCH = IndexOutOfBoundsException.class;
    private static final Class<IllegalArgumentException> WRONG = IllegalArgumentException.class;
    private static final Class<UnsupportedOperationException> NOT_NOW = UnsupportedOperationException.class;
    private static final Class<IllegalStateException> FULL = IllegalStateException.class;
    private static final Class<NoSuchElementException> NOTHING = NoSuchElementException.class;
    private static final int LEAST = Integer.MIN_VALUE;
    private static final int MOST = Integer.MAX_VALUE;

    public static void main(String[] args) {
        widthOfBlocks();
        heightOfBlocks();
        numberOfBlocks();
        priceOfBlocks();
        sixKinds();
        noSuchKindForBlocks();
        blocksLeft();
        noSuchPlaceForBestBlock();
        bestBlockOfNone();
        bestBlockOfAsGood();
        bestBlockOfWhatIsLeft();
        blockJustWideEnough();
        blockJustHighEnough();
        blockTheOtherWayRound();
        greatestDifferences();
        skillOfMason();
        payOfMason();
        fourMasons();
        cutForNoSuchPlace();
        cutFromNoSuchKind();
        cutByNoSuchMason();
        cutTheLastBlock();
        cutFromTooSmallBlock();
        fortyStones();
        paidAtOnce();
        noSuchStoneForReadyOn();
        workRoundedUp();
        leastAndMostWork();
        beginsTodayOrBehindTheOneAhead();
        workUpToTheFrost();
        workOverTheFrost();
        workToldInFrost();
        workOverYears();
        spentAtFirstAndAtMost();
        wasteAtFirstAndAtMost();
        usedShareOfNone();
        usedShareOfWholeBlocks();
        usedShareInFloat();
        Due.end();
    }

    // ---- promise 12

    private static void widthOfBlocks() {
        Doc.says("Promise 12", "the width, 1 to 20");
        Doc.says("Promise 12", "Throws `IllegalArgumentException` if a number is out of range");
        for (int width : new int[] {0, 21, -1, LEAST, MOST}) {
            Due.fails(WRONG, "" + width, () -> new VoussoirYard().addBlocks(width, 5, 5, 5, true));
        }
        Due.is(0, "1", () -> new VoussoirYard().addBlocks(1, 5, 5, 5, true));
        Due.is(0, "20", () -> new VoussoirYard().addBlocks(20, 5, 5, 5, false));
    }

    private static void heightOfBlocks() {
        Doc.says("Promise 12", "the height, 1 to 20");
        for (int height : new int[] {0, 21, -1, LEAST, MOST}) {
            Due.fails(WRONG, "" + height, () -> new VoussoirYard().addBlocks(5, height, 5, 5, false));
        }
        Due.is(0, "1", () -> new VoussoirYard().addBlocks(5, 1, 5, 5, true));
        Due.is(0, "20", () -> new VoussoirYard().addBlocks(5, 20, 5, 5, false));
    }

    private static void numberOfBlocks() {
        Doc.says("Promise 12", "how many there are, 1 to 99");
        for (int many : new int[] {0, 100, -1, LEAST, MOST}) {
            Due.fails(WRONG, "" + many, () -> new VoussoirYard().addBlocks(5, 5, many, 5, true));
        }
        VoussoirYard yard = new VoussoirYard();
        Due.is(0, "1", () -> yard.addBlocks(5, 5, 1, 5, true));
        Due.is(1, "99", () -> yard.addBlocks(5, 5, 99, 5, true));
        Due.is(1, "there is 1", () -> yard.blocks(0));
        Due.is(99, "there are 99", () -> yard.blocks(1));
    }

    private static void priceOfBlocks() {
        Doc.says("Promise 12", "the price of one, 0 to 999");
        for (int price : new int[] {-1, 1000, LEAST, MOST}) {
            Due.fails(WRONG, "" + price, () -> new VoussoirYard().addBlocks(5, 5, 5, price, true));
        }
        Due.is(0L, "0 is spent", () -> spentOnAStone(0, 0));
        Due.is(999L, "999 are spent", () -> spentOnAStone(999, 0));
    }

    /** What one stone of the doubled area 32 costs. */
    private static long spentOnAStone(int price, int pay) {
        VoussoirYard yard = Arches.beam(1, 4);
        yard.addBlocks(4, 4, 1, price, true);
        yard.addMason(99, pay);
        yard.cut(0, 0, 0);
        return yard.spent();
    }

    private static void sixKinds() {
        Doc.says("Terms", "At most 6 kinds of blocks are numbered from 0");
        Doc.says("Promise 12", "Returns its number.");
        Doc.says("Promise 12", "Throws `IllegalStateException` if there are 6 kinds");
        VoussoirYard yard = new VoussoirYard();
        for (int kind = 0; kind < 6; kind++) {
            int number = kind;
            Due.is(number, "the kind " + number, () -> yard.addBlocks(5, 5, 1 + number, 5, true));
        }
        Due.fails(FULL, "a seventh", () -> yard.addBlocks(5, 5, 5, 5, true));
        Due.fails(FULL, "a seventh once more", () -> yard.addBlocks(5, 5, 5, 5, true));
        Due.is(6, "the sixth is as it was", () -> yard.blocks(5));
        VoussoirYard usedUp = Arches.beam(1, 4);
        usedUp.addMason(99, 0);
        for (int kind = 0; kind < 6; kind++) {
            usedUp.addBlocks(4, 4, 1, 0, true);
            usedUp.cut(0, kind, 0);
        }
        Due.fails(FULL, "a seventh when none is left of the six", () -> usedUp.addBlocks(4, 4, 1, 0, true));
    }

    // ---- promise 13

    private static void noSuchKindForBlocks() {
        Doc.says("Promise 13", "Throws `IndexOutOfBoundsException` if there is no such kind");
        VoussoirYard yard = new VoussoirYard();
        Due.fails(NO_SUCH, "0 of none", () -> yard.blocks(0));
        for (int kind = 0; kind < 6; kind++) {
            int number = kind;
            yard.addBlocks(5, 5, 5, 5, true);
            Due.is(5, "the last of " + (number + 1), () -> yard.blocks(number));
            Due.fails(NO_SUCH, (number + 1) + " of as many", () -> yard.blocks(number + 1));
        }
        for (int kind : new int[] {-1, LEAST, MOST}) {
            Due.fails(NO_SUCH, kind + " of 6", () -> yard.blocks(kind));
        }
    }

    private static void blocksLeft() {
        Doc.says("Promise 13", "Returns how many blocks of a kind there are.");
        VoussoirYard yard = Arches.beam(1, 4);
        yard.addMason(99, 0);
        yard.addBlocks(4, 4, 2, 0, true);
        yard.addBlocks(3, 3, 2, 0, true);
        Due.is(2, "all", () -> yard.blocks(0));
        yard.cut(0, 0, 0);
        Due.is(1, "one less", () -> yard.blocks(0));
        yard.cut(0, 0, 0);
        Due.is(0, "none", () -> yard.blocks(0));
        Due.fails(NOT_NOW, "there is none to cut", () -> yard.cut(0, 0, 0));
        Due.is(0, "still none", () -> yard.blocks(0));
        Due.fails(NOT_NOW, "it is too small to cut", () -> yard.cut(0, 1, 0));
        Due.is(2, "all that are too small", () -> yard.blocks(1));
    }

    // ---- promise 14

    private static void noSuchPlaceForBestBlock() {
        Doc.says("Promise 14", "Throws `IndexOutOfBoundsException` if there is no such place");
        VoussoirYard yard = Arches.quarriedBeam(3, 99);
        for (int place : new int[] {-1, 3, 7, 8, LEAST, MOST}) {
            Due.fails(NO_SUCH, place + " of 3", () -> yard.bestBlock(place));
        }
        Due.is(0, "the first", () -> yard.bestBlock(0));
        Due.is(0, "the last", () -> yard.bestBlock(2));
        VoussoirYard single = Arches.beam(0, 4);
        single.addBlocks(4, 4, 9, 0, true);
        Due.fails(NO_SUCH, "0 with one joint", () -> single.bestBlock(0));
    }

    private static void bestBlockOfNone() {
        Doc.says("Promise 14", "Throws `NoSuchElementException` if it can be cut from none that there is");
        VoussoirYard yard = Arches.beam(1, 4);
        yard.addMason(99, 0);
        Due.fails(NOTHING, "there are no blocks", () -> yard.bestBlock(0));
        yard.addBlocks(3, 4, 9, 0, false);
        Due.fails(NOTHING, "all are too small", () -> yard.bestBlock(0));
        yard.addBlocks(4, 4, 1, 0, false);
        Due.is(1, "one is not", () -> yard.bestBlock(0));
        yard.cut(0, 1, 0);
        Due.fails(NOTHING, "it is used up", () -> yard.bestBlock(0));
    }

    private static void bestBlockOfAsGood() {
        Doc.says("Promise 14", "with the least waste, the lowest one of several");
        VoussoirYard yard = Arches.beam(1, 4);
        yard.addBlocks(6, 6, 9, 0, true);
        yard.addBlocks(5, 6, 9, 9, true);
        yard.addBlocks(6, 5, 9, 0, false);
        yard.addBlocks(5, 6, 9, 0, true);
        Due.is(1, "three with the waste 28", () -> yard.bestBlock(0));
        yard.addBlocks(4, 7, 9, 999, true);
        Due.is(4, "then one with the waste 24", () -> yard.bestBlock(0));
        yard.addBlocks(4, 4, 9, 999, true);
        Due.is(5, "then one without waste", () -> yard.bestBlock(0));
        VoussoirYard first = Arches.beam(1, 4);
        first.addBlocks(4, 4, 9, 999, true);
        first.addBlocks(5, 5, 9, 0, true);
        Due.is(0, "the first is the best", () -> first.bestBlock(0));
    }

    private static void bestBlockOfWhatIsLeft() {
        Doc.says("Promise 14", "from which a place can be cut");
        VoussoirYard yard = Arches.beam(1, 4);
        yard.addMason(99, 0);
        yard.addBlocks(4, 4, 1, 0, true);
        yard.addBlocks(3, 3, 1, 0, true);
        yard.addBlocks(5, 5, 1, 0, true);
        Due.is(0, "the best, though a too small one would waste less", () -> yard.bestBlock(0));
        yard.cut(0, 0, 0);
        Due.is(2, "the next one, when the best is used up", () -> yard.bestBlock(0));
    }

    // ---- the term Quarry

    /** A place of the given width and height, upright. */
    private static VoussoirYard quarriedPlace(int width, int height) {
        VoussoirYard yard = Arches.drawn(new int[][] {{0, 0, 0, height}, {width, 0, width, height}});
        yard.addMason(99, 0);
        return yard;
    }

    /** What the cut of a place of the given width and height from a block answers. */
    private static Object cutFrom(int width, int height, int blockWidth, int blockHeight, boolean isBedded) {
        VoussoirYard yard = quarriedPlace(width, height);
        yard.addBlocks(blockWidth, blockHeight, 1, 0, isBedded);
        return yard.cut(0, 0, 0);
    }

    private static void blockJustWideEnough() {
        Doc.says("Terms", "if its greatest difference in x is at most the width");
        Due.is(0, "just", () -> cutFrom(7, 4, 7, 20, true));
        Due.is(0, "more than enough", () -> cutFrom(7, 4, 8, 20, true));
        Due.fails(NOT_NOW, "one too narrow", () -> cutFrom(7, 4, 6, 20, true));
        Due.is(0, "20 of 20", () -> cutFrom(20, 20, 20, 20, true));
    }

    private static void blockJustHighEnough() {
        Doc.says("Terms", "and that in y at most the height");
        Due.is(0, "just", () -> cutFrom(4, 7, 20, 7, true));
        Due.is(0, "more than enough", () -> cutFrom(4, 7, 20, 8, true));
        Due.fails(NOT_NOW, "one too low", () -> cutFrom(4, 7, 20, 6, true));
        Due.fails(NOT_NOW, "too low, and too narrow", () -> cutFrom(8, 7, 7, 6, true));
    }

    private static void blockTheOtherWayRound() {
        Doc.says("Terms", "of a block that is not bedded also the other way round");
        Due.is(0, "not bedded, just", () -> cutFrom(7, 4, 4, 7, false));
        Due.fails(NOT_NOW, "bedded", () -> cutFrom(7, 4, 4, 7, true));
        Due.fails(NOT_NOW, "not bedded, one too narrow for the height", () -> cutFrom(7, 4, 3, 7, false));
        Due.fails(NOT_NOW, "not bedded, one too low for the width", () -> cutFrom(7, 4, 4, 6, false));
        Due.is(0, "not bedded, as it lies", () -> cutFrom(7, 4, 7, 4, false));
        Due.fails(NOT_NOW, "not bedded, one too narrow as it lies", () -> cutFrom(7, 4, 6, 4, false));
        Due.fails(NOT_NOW, "not bedded, one too low as it lies", () -> cutFrom(7, 4, 7, 3, false));
    }

    private static void greatestDifferences() {
        Doc.says("Terms", "A stone can be cut from a block if its greatest difference in x");
        // each of the six pairs of corners is once the one that is farthest apart
        int[][][] wide = {{{0, 4, 1, 9}, {9, 0, 8, 9}}, {{1, 0, 3, 9}, {2, 0, 10, 9}}, {{9, 0, 0, 0}, {8, 9, 1, 9}},
            {{1, 9, 8, 9}, {0, 0, 9, 0}}, {{8, 0, 0, 9}, {9, 0, 1, 9}}, {{3, 0, 0, 9}, {8, 0, 9, 9}}};
        for (int[][] place : wide) {
            Due.is(0, "9 in x", () -> cutOf(place, 9, 20));
            Due.fails(NOT_NOW, "8 in x", () -> cutOf(place, 8, 20));
            int[][] high = onItsSide(place);
            Due.is(0, "9 in y", () -> cutOf(high, 20, 9));
            Due.fails(NOT_NOW, "8 in y", () -> cutOf(high, 20, 8));
        }
    }

    private static Object cutOf(int[][] place, int blockWidth, int blockHeight) {
        VoussoirYard yard = Arches.drawn(place);
        yard.addMason(99, 0);
        yard.addBlocks(blockWidth, blockHeight, 1, 0, true);
        return yard.cut(0, 0, 0);
    }

    /** The place turned to the left by a quarter, about (10, 10). */
    private static int[][] onItsSide(int[][] place) {
        int[][] turned = new int[place.length][];
        for (int joint = 0; joint < place.length; joint++) {
            int[] at = place[joint];
            turned[joint] = new int[] {20 - at[1], at[0], 20 - at[3], at[2]};
        }
        return turned;
    }

    // ---- promise 15

    private static void skillOfMason() {
        Doc.says("Promise 15", "the skill, 1 to 99");
        Doc.says("Promise 15", "Throws `IllegalArgumentException` if a number is out of range");
        for (int skill : new int[] {0, 100, -1, LEAST, MOST}) {
            Due.fails(WRONG, "" + skill, () -> new VoussoirYard().addMason(skill, 5));
        }
        Due.is(0, "1", () -> new VoussoirYard().addMason(1, 5));
        Due.is(0, "99", () -> new VoussoirYard().addMason(99, 5));
    }

    private static void payOfMason() {
        Doc.says("Promise 15", "the pay, 0 to 9");
        for (int pay : new int[] {-1, 10, LEAST, MOST}) {
            Due.fails(WRONG, "" + pay, () -> new VoussoirYard().addMason(5, pay));
        }
        Due.is(0L, "0 is spent", () -> spentOnAStone(0, 0));
        Due.is(9L * 32, "9 are spent for each unit of the doubled area", () -> spentOnAStone(0, 9));
    }

    private static void fourMasons() {
        Doc.says("Terms", "At most 4 masons are numbered from 0");
        Doc.says("Promise 15", "Returns the number of the mason.");
        Doc.says("Promise 15", "Throws `IllegalStateException` if there are 4 masons");
        VoussoirYard yard = new VoussoirYard();
        for (int mason = 0; mason < 4; mason++) {
            int number = mason;
            Due.is(number, "the mason " + number, () -> yard.addMason(5, 5));
        }
        Due.fails(FULL, "a fifth", () -> yard.addMason(5, 5));
        Due.fails(FULL, "a fifth once more", () -> yard.addMason(5, 5));
    }

    // ---- promise 16

    private static void cutForNoSuchPlace() {
        Doc.says("Promise 16", "Throws `IndexOutOfBoundsException` if there is no such place, kind or mason");
        VoussoirYard yard = Arches.quarriedBeam(3, 99);
        for (int place : new int[] {-1, 3, 7, 8, LEAST, MOST}) {
            Due.fails(NO_SUCH, place + " of 3", () -> yard.cut(place, 0, 0));
        }
        Due.is(0, "the first", () -> yard.cut(0, 0, 0));
        Due.is(1, "the last", () -> yard.cut(2, 0, 0));
    }

    private static void cutFromNoSuchKind() {
        Doc.says("Promise 16", "if there is no such place, kind or mason");
        VoussoirYard yard = Arches.quarriedBeam(1, 99);
        for (int kind : new int[] {-1, 1, 6, LEAST, MOST}) {
            Due.fails(NO_SUCH, kind + " of 1", () -> yard.cut(0, kind, 0));
        }
        for (int kind = 1; kind < 6; kind++) {
            yard.addBlocks(4, 4, 9, 0, true);
        }
        Due.is(0, "the last of 6", () -> yard.cut(0, 5, 0));
        Due.fails(NO_SUCH, "6 of 6", () -> yard.cut(0, 6, 0));
    }

    private static void cutByNoSuchMason() {
        Doc.says("Promise 16", "if there is no such place, kind or mason");
        VoussoirYard yard = Arches.quarriedBeam(1, 99);
        for (int mason : new int[] {-1, 1, 4, LEAST, MOST}) {
            Due.fails(NO_SUCH, mason + " of 1", () -> yard.cut(0, 0, mason));
        }
        for (int mason = 1; mason < 4; mason++) {
            yard.addMason(9, 0);
        }
        Due.is(0, "the last of 4", () -> yard.cut(0, 0, 3));
        Due.fails(NO_SUCH, "4 of 4", () -> yard.cut(0, 0, 4));
    }

    private static void cutTheLastBlock() {
        Doc.says("Promise 16", "Throws `UnsupportedOperationException` if there is no such block left");
        VoussoirYard yard = Arches.beam(1, 4);
        yard.addMason(99, 0);
        yard.addBlocks(4, 4, 1, 0, true);
        yard.addBlocks(4, 4, 1, 0, true);
        Due.is(0, "the only one", () -> yard.cut(0, 0, 0));
        Due.fails(NOT_NOW, "none is left", () -> yard.cut(0, 0, 0));
        Due.is(1, "of the other kind there is one", () -> yard.cut(0, 1, 0));
    }

    private static void cutFromTooSmallBlock() {
        Doc.says("Promise 16", "or the place cannot be cut from it");
        Due.fails(NOT_NOW, "too small a block", () -> cutFrom(4, 4, 3, 4, true));
        VoussoirYard yard = quarriedPlace(4, 4);
        yard.addBlocks(4, 4, 9, 5, true);
        yard.moveJoint(1, 5, 0, 5, 4);
        Due.fails(NOT_NOW, "the place has grown", () -> yard.cut(0, 0, 0));
        Due.is(0L, "nothing is paid", yard::spent);
        yard.moveJoint(1, 4, 0, 4, 4);
        Due.is(0, "the place as it was", () -> yard.cut(0, 0, 0));
    }

    private static void fortyStones() {
        Doc.says("Terms", "At most 40 stones are numbered from 0.");
        Doc.says("Promise 16", "Returns the number of the stone.");
        Doc.says("Promise 16", "Throws `IllegalStateException` if there are 40 stones");
        VoussoirYard yard = Arches.quarriedBeam(1, 99);
        for (int stone = 0; stone < 40; stone++) {
            int number = stone;
            Due.is(number, "the stone " + number, () -> yard.cut(0, 0, 0));
        }
        Due.fails(FULL, "one too many", () -> yard.cut(0, 0, 0));
        Due.fails(FULL, "one too many once more", () -> yard.cut(0, 0, 0));
        Due.is(59, "no block is used for it", () -> yard.blocks(0));
        Due.is(40L + 40 * 32, "nothing is paid for it", yard::spent);
        VoussoirYard fallen = Arches.fallen();
        for (int stone = 8; stone < 40; stone++) {
            fallen.cut(0, 0, 0);
        }
        Due.fails(FULL, "broken ones count", () -> fallen.cut(0, 0, 0));
    }

    private static void paidAtOnce() {
        Doc.says("Promise 16", "both are paid at once, whenever the work begins");
        VoussoirYard yard = Arches.quarriedBeam(1, 1);
        yard.cut(0, 0, 0);
        Due.is(33L, "at once", yard::spent);
        yard.cut(0, 0, 0);
        Due.is(66L, "at once, though the work begins later", yard::spent);
        yard.pass(99);
        yard.cut(0, 0, 0);
        Due.is(99L, "at once, in the frost", yard::spent);
        yard.pass(99);
        Due.is(99L, "no more later", yard::spent);
    }

    // ---- promise 17, and the term Masons

    private static void noSuchStoneForReadyOn() {
        Doc.says("Promise 17", "Throws `IndexOutOfBoundsException` if there is no such stone");
        VoussoirYard yard = Arches.quarriedBeam(1, 99);
        Due.fails(NO_SUCH, "0 of none", () -> yard.readyOn(0));
        yard.cut(0, 0, 0);
        yard.cut(0, 0, 0);
        for (int stone : new int[] {-1, 2, 39, 40, LEAST, MOST}) {
            Due.fails(NO_SUCH, stone + " of 2", () -> yard.readyOn(stone));
        }
        Due.is(1, "the first", () -> yard.readyOn(0));
        Due.is(2, "the last", () -> yard.readyOn(1));
    }

    /** The day on which a stone of the doubled area 32 is ready, told on the given day to a mason of that skill. */
    private static int readyDay(int toldOn, int skill) {
        VoussoirYard yard = Arches.quarriedBeam(1, skill);
        for (int day = 0; day < toldOn; day++) {
            yard.pass(1);
        }
        yard.cut(0, 0, 0);
        return yard.readyOn(0);
    }

    private static void workRoundedUp() {
        Doc.says("Terms", "as its doubled area divided by the skill, rounded up");
        Due.is(1, "32 at 32 a day", () -> readyDay(0, 32));
        Due.is(1, "32 at 33 a day", () -> readyDay(0, 33));
        Due.is(2, "32 at 31 a day", () -> readyDay(0, 31));
        Due.is(2, "32 at 16 a day", () -> readyDay(0, 16));
        Due.is(3, "32 at 15 a day", () -> readyDay(0, 15));
    }

    private static void leastAndMostWork() {
        Doc.says("Terms", "the doubled area that is cut in a day");
        Due.is(1, "at the greatest skill", () -> readyDay(0, 99));
        Due.is(32, "at the least skill", () -> readyDay(0, 1));
        VoussoirYard small = Arches.beam(1, 1);
        small.addBlocks(1, 1, 1, 0, true);
        small.addMason(1, 0);
        small.cut(0, 0, 0);
        Due.is(2, "the smallest stone at the least skill", () -> small.readyOn(0));
    }

    private static void beginsTodayOrBehindTheOneAhead() {
        Doc.says("Terms", "A mason begins a stone today, or as soon as the one ahead is ready");
        Doc.says("Terms", "it is ready on the day behind the last of these, on which the next one can begin");
        VoussoirYard yard = Arches.quarriedBeam(1, 16);
        yard.addMason(16, 0);
        yard.cut(0, 0, 0);
        Due.is(2, "today", () -> yard.readyOn(0));
        yard.cut(0, 0, 0);
        Due.is(4, "on the day 2, when the one ahead is ready", () -> yard.readyOn(1));
        yard.cut(0, 0, 1);
        Due.is(2, "the other mason today", () -> yard.readyOn(2));
        yard.pass(3);
        yard.cut(0, 0, 0);
        Due.is(6, "on the day 4, told a day ahead of it", () -> yard.readyOn(3));
        yard.pass(3);
        yard.cut(0, 0, 0);
        Due.is(8, "on the day 6, told on just that day", () -> yard.readyOn(4));
        yard.pass(3);
        yard.cut(0, 0, 0);
        Due.is(11, "on the day 9, a day behind the one ahead", () -> yard.readyOn(5));
    }

    private static void workUpToTheFrost() {
        Doc.says("Terms", "the day on which it begins included, if that has no frost");
        Due.is(90, "the last day without frost alone", () -> readyDay(89, 32));
        Due.is(90, "the last two days without frost", () -> readyDay(88, 16));
        Due.is(89, "a day less", () -> readyDay(88, 32));
        Due.is(210, "the last day of the second year", () -> readyDay(209, 32));
    }

    private static void workOverTheFrost() {
        Doc.says("Terms", "the work takes as many days without frost");
        Due.is(121, "the days 89 and 120", () -> readyDay(89, 16));
        Due.is(122, "the days 89, 120 and 121", () -> readyDay(89, 15));
        VoussoirYard yard = Arches.quarriedBeam(1, 32);
        yard.pass(89);
        yard.cut(0, 0, 0);
        yard.cut(0, 0, 0);
        Due.is(90, "ready on the first day of frost", () -> yard.readyOn(0));
        Due.is(121, "the next one begins behind the frost", () -> yard.readyOn(1));
    }

    private static void workToldInFrost() {
        Doc.says("Terms", "A year has 120 days; the last 30 have frost, in which nothing is cut");
        Due.is(121, "told on the first day of frost", () -> readyDay(90, 32));
        Due.is(121, "told on the last day of frost", () -> readyDay(119, 32));
        Due.is(121, "told on the first day of the year", () -> readyDay(120, 32));
        Due.is(122, "told on the second day of the year", () -> readyDay(121, 32));
        Due.is(122, "told in the frost, for two days", () -> readyDay(100, 16));
        Due.is(241, "told in the second frost", () -> readyDay(210, 32));
        Due.is(241, "told at the end of the second frost", () -> readyDay(239, 32));
    }

    /** The day on which a single stone of the given doubled area is ready, at the skill 1 from the day 0 on. */
    private static int readyAtSkill1(int[][] place) {
        VoussoirYard yard = Arches.drawn(place);
        yard.addBlocks(20, 20, 1, 0, true);
        yard.addMason(1, 0);
        yard.cut(0, 0, 0);
        return yard.readyOn(0);
    }

    private static void workOverYears() {
        Doc.says("Terms", "each with a skill, the doubled area that is cut in a day");
        Due.is(90, "90 days fill a year up to frost", () -> readyAtSkill1(new int[][] {{0, 0, 0, 9}, {5, 0, 5, 9}}));
        Due.is(121, "91 days need a day of the next", () -> readyAtSkill1(new int[][] {{0, 0, 0, 9}, {5, 0, 4, 11}}));
        Due.is(210, "180 days fill two", () -> readyAtSkill1(new int[][] {{0, 0, 0, 9}, {10, 0, 10, 9}}));
        Due.is(8 * 120 + 80, "800 days are 8 years and 80 days",
            () -> readyAtSkill1(new int[][] {{0, 0, 0, 20}, {20, 0, 20, 20}}));
    }

    // ---- promises 29 to 31

    private static void spentAtFirstAndAtMost() {
        Doc.says("Promise 29", "Returns what was spent on blocks and masons.");
        VoussoirYard yard = Arches.beam(1, 20);
        Due.is(0L, "at first", yard::spent);
        yard.addBlocks(20, 20, 99, 999, true);
        yard.addMason(1, 9);
        Due.is(0L, "blocks and masons cost nothing until a stone is cut", yard::spent);
        for (int stone = 0; stone < 40; stone++) {
            yard.cut(0, 0, 0);
        }
        Due.is(40L * (999 + 9 * 800), "at most", yard::spent);
        Due.fails(FULL, "a stone too many", () -> yard.cut(0, 0, 0));
        Due.is(40L * (999 + 9 * 800), "no more", yard::spent);
        VoussoirYard arch = Arches.standing();
        long spent = arch.spent();
        arch.load(1, 20000);
        Due.is(spent, "it fell, and nothing is paid back", arch::spent);
    }

    private static void wasteAtFirstAndAtMost() {
        Doc.says("Promise 30", "Returns the waste of all blocks that were cut.");
        Doc.says("Terms", "The waste is the doubled area of the block less that of the stone.");
        VoussoirYard yard = Arches.beam(1, 1);
        Due.is(0, "at first", yard::waste);
        yard.addBlocks(1, 1, 1, 0, true);
        yard.addBlocks(20, 20, 99, 0, true);
        yard.addMason(99, 0);
        yard.cut(0, 0, 0);
        Due.is(0, "a whole block", yard::waste);
        for (int stone = 1; stone < 40; stone++) {
            yard.cut(0, 1, 0);
        }
        Due.is(39 * 798, "at most", yard::waste);
        Due.fails(FULL, "a stone too many", () -> yard.cut(0, 1, 0));
        Due.is(39 * 798, "no more", yard::waste);
        VoussoirYard arch = Arches.standing();
        int waste = arch.waste();
        arch.load(1, 20000);
        Due.is(waste, "it fell, and the waste stays", arch::waste);
    }

    private static void usedShareOfNone() {
        Doc.says("Promise 31", "Throws `ArithmeticException` if none was cut");
        Due.fails(ArithmeticException.class, "a new yard", () -> new VoussoirYard().usedShare());
        VoussoirYard yard = Arches.quarriedBeam(1, 99);
        Due.fails(ArithmeticException.class, "blocks, but none was cut", yard::usedShare);
        Due.fails(NO_SUCH, "a cut that is refused", () -> yard.cut(1, 0, 0));
        Due.fails(ArithmeticException.class, "still none", yard::usedShare);
        yard.cut(0, 0, 0);
        Due.is(1f, "one was cut", yard::usedShare);
    }

    private static void usedShareOfWholeBlocks() {
        Doc.says("Promise 31", "the share of the doubled areas of the blocks that were cut which is in stones");
        VoussoirYard whole = Arches.quarriedBeam(1, 99);
        for (int stone = 0; stone < 40; stone++) {
            whole.cut(0, 0, 0);
        }
        Due.is(1f, "all of 40 blocks", whole::usedShare);
        VoussoirYard small = Arches.beam(1, 1);
        small.addBlocks(20, 20, 40, 0, true);
        small.addMason(99, 0);
        small.cut(0, 0, 0);
        Due.is(0.0025f, "2 of 800", small::usedShare);
    }

    private static void usedShareInFloat() {
        Doc.says("Promise 31", "divided by that of their blocks, both converted to float");
        VoussoirYard yard = Arches.beam(1, 1);
        yard.addBlocks(1, 3, 9, 0, true);
        yard.addBlocks(1, 7, 9, 0, true);
        yard.addMason(99, 0);
        yard.cut(0, 0, 0);
        Due.is(2f / 6f, "a third, as near as float comes", yard::usedShare);
        yard.cut(0, 1, 0);
        Due.is(4f / 20f, "of the sums, not the mean of the shares", yard::usedShare);
    }
}
