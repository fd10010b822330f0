import java.util.NoSuchElementException;

/** Promises 12 to 16 and 29 to 31: blocks, masons, cutting, and what it costs. */
public final class QuarryTest {
    private static final Class<IndexOutOfBoundsException> NO_SUCH = IndexOutOfBoundsException.class;
    private static final Class<IllegalArgumentException> WRONG = IllegalArgumentException.class;
    private static final Class<UnsupportedOperationException> NOT_NOW = UnsupportedOperationException.class;
    private static final Class<IllegalStateException> FULL = IllegalStateException.class;
    private static final int[] FAR = {-1, Integer.MIN_VALUE, Integer.MAX_VALUE};

    public static void main(String[] args) {
        addBlocks();
        bestBlock();
        bedded();
        addMason();
        cut();
        cutOrder();
        fortyStones();
        figures();
        greatestSums();
        Due.end();
    }

    private static void addBlocks() {
        VoussoirYard yard = new VoussoirYard();
        int[][] wrong = {{0, 1, 1, 0}, {21, 1, 1, 0}, {1, 0, 1, 0}, {1, 21, 1, 0}, {1, 1, 0, 0}, {1, 1, 100, 0},
            {1, 1, 1, -1}, {1, 1, 1, 1000}, {-1, 1, 1, 0}, {1, Integer.MIN_VALUE, 1, 0}, {1, 1, Integer.MAX_VALUE, 0}};
        for (int[] w : wrong) {
            Due.fails(WRONG, "addBlocks out of range", () -> yard.addBlocks(w[0], w[1], w[2], w[3], true));
        }
        Due.is(0, "the least numbers", () -> yard.addBlocks(1, 1, 1, 0, true));
        Due.is(1, "the greatest numbers", () -> yard.addBlocks(20, 20, 99, 999, false));
        Due.is(2, "the same again", () -> yard.addBlocks(20, 20, 99, 999, false));
        yard.addBlocks(2, 2, 7, 0, false);
        yard.addBlocks(2, 2, 8, 0, false);
        Due.is(5, "the sixth kind", () -> yard.addBlocks(2, 2, 9, 0, false));
        Due.fails(FULL, "a seventh kind", () -> yard.addBlocks(2, 2, 9, 0, false));
        Due.fails(WRONG, "a seventh kind that is wrong", () -> yard.addBlocks(2, 2, 0, 0, false));
        Due.is(1, "blocks 0", () -> yard.blocks(0));
        Due.is(99, "blocks 1", () -> yard.blocks(1));
        Due.is(9, "blocks 5", () -> yard.blocks(5));
        Due.fails(NO_SUCH, "blocks 6", () -> yard.blocks(6));
        for (int kind : FAR) {
            Due.fails(NO_SUCH, "blocks of no kind", () -> yard.blocks(kind));
            Due.fails(NO_SUCH, "bestBlock of no place", () -> yard.bestBlock(kind));
        }
    }

    private static void bestBlock() {
        VoussoirYard yard = Arches.beam(2, 4);
        yard.addMason(99, 0);
        Due.fails(NoSuchElementException.class, "bestBlock without blocks", () -> yard.bestBlock(0));
        Due.fails(NO_SUCH, "bestBlock of no place", () -> yard.bestBlock(2));
        yard.addBlocks(3, 20, 1, 0, false);
        Due.fails(NoSuchElementException.class, "too narrow both ways", () -> yard.bestBlock(0));
        yard.addBlocks(6, 6, 5, 0, false);
        Due.is(1, "the only one", () -> yard.bestBlock(0));
        yard.addBlocks(5, 6, 1, 0, true);
        yard.addBlocks(6, 5, 1, 0, true);
        Due.is(2, "the lowest one of two", () -> yard.bestBlock(1));
        yard.cut(1, 2, 0);
        Due.is(3, "there is none left of the best", () -> yard.bestBlock(1));
        yard.addBlocks(4, 4, 1, 999, true);
        Due.is(4, "no waste, whatever the price", () -> yard.bestBlock(1));
        yard.cut(0, 4, 0);
        yard.cut(0, 3, 0);
        Due.is(1, "of the last ones", () -> yard.bestBlock(0));
        for (int i = 0; i < 5; i++) {
            yard.cut(0, 1, 0);
        }
        Due.fails(NoSuchElementException.class, "none left", () -> yard.bestBlock(0));
    }

    /** A place that is 6 wide and 3 high. */
    private static void bedded() {
        VoussoirYard yard = Arches.drawn(new int[][] {{2, 0, 0, 3}, {5, 0, 6, 3}});
        yard.addMason(99, 0);
        yard.addBlocks(3, 6, 1, 0, true);
        yard.addBlocks(5, 20, 1, 0, true);
        yard.addBlocks(20, 2, 1, 0, false);
        for (int kind = 0; kind < 3; kind++) {
            int from = kind;
            Due.fails(NOT_NOW, "too small a block " + kind, () -> yard.cut(0, from, 0));
            Due.is(1, "it is still there", () -> yard.blocks(from));
        }
        Due.fails(NoSuchElementException.class, "none of these", () -> yard.bestBlock(0));
        yard.addBlocks(6, 3, 1, 0, true);
        yard.addBlocks(3, 6, 1, 0, false);
        Due.is(3, "upright, bedded", () -> yard.bestBlock(0));
        Due.is(0, "cut upright", () -> yard.cut(0, 3, 0));
        Due.is(4, "turned, not bedded", () -> yard.bestBlock(0));
        Due.is(1, "cut turned", () -> yard.cut(0, 4, 0));
        Due.is(18, "the waste of both: 36 less 27", yard::waste);
        yard.addBlocks(20, 3, 1, 0, true);
        Due.is(5, "a long one", () -> yard.bestBlock(0));
    }

    private static void addMason() {
        VoussoirYard yard = new VoussoirYard();
        int[][] wrong = {{0, 0}, {100, 0}, {1, -1}, {1, 10}, {-1, 5}, {Integer.MAX_VALUE, 1}, {1, Integer.MIN_VALUE}};
        for (int[] w : wrong) {
            Due.fails(WRONG, "addMason out of range", () -> yard.addMason(w[0], w[1]));
        }
        Due.is(0, "the least numbers", () -> yard.addMason(1, 0));
        Due.is(1, "the greatest numbers", () -> yard.addMason(99, 9));
        Due.is(2, "a third", () -> yard.addMason(5, 5));
        Due.is(3, "a fourth", () -> yard.addMason(5, 5));
        Due.fails(FULL, "a fifth", () -> yard.addMason(5, 5));
        Due.fails(WRONG, "a fifth that is wrong", () -> yard.addMason(5, 10));
    }

    private static void cut() {
        VoussoirYard yard = Arches.round();
        yard.addBlocks(10, 10, 2, 5, false);
        yard.addMason(20, 1);
        yard.addMason(50, 2);
        Due.is(0, "the first stone", () -> yard.cut(2, 0, 0));
        Due.is(1, "a block less", () -> yard.blocks(0));
        Due.is(53L, "the price and the pay for 48", yard::spent);
        Due.is(1, "the second stone", () -> yard.cut(0, 0, 1));
        Due.is(0, "none left", () -> yard.blocks(0));
        Due.is(122L, "5 and 2 times 32 more", yard::spent);
        Due.fails(NOT_NOW, "from none", () -> yard.cut(0, 0, 1));
        Due.is(122L, "for nothing", yard::spent);
        Due.is(320, "waste 200 - 48 + 200 - 32", yard::waste);
        Due.fails(NO_SUCH, "no third stone", () -> yard.readyOn(2));
    }

    private static void cutOrder() {
        VoussoirYard yard = Arches.beam(2, 4);
        yard.addBlocks(3, 3, 1, 5, false);
        yard.addMason(20, 1);
        int[] none = {-1, 2, Integer.MAX_VALUE, Integer.MIN_VALUE};
        for (int number : none) {
            Due.fails(NO_SUCH, "cut for no place", () -> yard.cut(number, 0, 0));
            Due.fails(NO_SUCH, "cut from no kind", () -> yard.cut(0, number, 0));
            Due.fails(NO_SUCH, "cut by no mason", () -> yard.cut(0, 0, number));
        }
        Due.fails(NO_SUCH, "cut from the kind behind the last", () -> yard.cut(0, 1, 0));
        Due.fails(NO_SUCH, "cut by the mason behind the last", () -> yard.cut(0, 0, 1));
        Due.fails(NOT_NOW, "cut from too small a block", () -> yard.cut(0, 0, 0));
        Due.is(0L, "nothing is spent", yard::spent);
        Due.is(1, "the block is there", () -> yard.blocks(0));
        Due.fails(ArithmeticException.class, "none was cut", yard::usedShare);
    }

    private static void fortyStones() {
        VoussoirYard yard = Arches.beam(2, 4);
        yard.addBlocks(4, 4, 41, 1, true);
        yard.addBlocks(3, 3, 1, 1, true);
        yard.addMason(99, 0);
        for (int stone = 0; stone < 40; stone++) {
            int number = stone;
            Due.is(number, "stone " + stone, () -> yard.cut(number % 2, 0, 0));
        }
        Due.fails(FULL, "a stone too many", () -> yard.cut(0, 0, 0));
        Due.fails(NOT_NOW, "a stone too many from too small a block", () -> yard.cut(0, 1, 0));
        Due.fails(NO_SUCH, "a stone too many by no mason", () -> yard.cut(0, 0, 1));
        Due.is(1, "one block is left", () -> yard.blocks(0));
        Due.is(40L, "40 were paid", yard::spent);
        Due.is(40, "the mason needs a day for each", () -> yard.readyOn(39));
        Due.fails(NO_SUCH, "no stone 40", () -> yard.readyOn(40));
    }

    private static void figures() {
        VoussoirYard yard = Arches.round();
        yard.addBlocks(10, 10, 9, 5, false);
        yard.addMason(20, 0);
        Due.fails(ArithmeticException.class, "usedShare of nothing", yard::usedShare);
        yard.cut(2, 0, 0);
        Due.is(48f / 200f, "usedShare of one", yard::usedShare);
        yard.cut(0, 0, 0);
        yard.cut(1, 0, 0);
        Due.is(121f / 600f, "usedShare of three", yard::usedShare);
        Due.is(479, "waste of three", yard::waste);
        yard.moveJoint(1, 4, 5, 1, 8);
        Due.is(121f / 600f, "a stone keeps its drawing", yard::usedShare);
        VoussoirYard arch = Arches.standing();
        float share = arch.usedShare();
        int waste = arch.waste();
        long spent = arch.spent();
        arch.load(1, 20000);
        Due.is(share, "usedShare with broken stones", arch::usedShare);
        Due.is(waste, "waste with broken stones", arch::waste);
        Due.is(spent, "spent with broken stones", arch::spent);
        VoussoirYard whole = Arches.beam(1, 4);
        whole.addBlocks(4, 4, 1, 0, true);
        whole.addMason(1, 0);
        whole.cut(0, 0, 0);
        Due.is(1f, "usedShare without waste", whole::usedShare);
        Due.is(0, "waste without waste", whole::waste);
    }

    private static void greatestSums() {
        VoussoirYard yard = Arches.beam(1, 20);
        yard.addBlocks(20, 20, 99, 999, true);
        yard.addMason(1, 9);
        for (int stone = 0; stone < 40; stone++) {
            yard.cut(0, 0, 0);
        }
        Due.is(40L * (999 + 9 * 800), "the dearest stones", yard::spent);
        // 32000 days of work: 355 years of 90 days, and 50 days
        Due.is(355 * 120 + 50, "the longest work", () -> yard.readyOn(39));
    }
}
