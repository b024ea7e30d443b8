import java.util.Arrays;

/** Each promise by itself: ordinary inputs, the edges that the document names, wrong inputs. */
public final class PromisesTest {
    private static final int MOST_BLOCKS = 512;
    private static final int[] NO_BLOCKS = {-1, -2, -3, Integer.MIN_VALUE, 512, 513, Integer.MAX_VALUE};
    private static final Check check = new Check();

    public static void main(String[] args) {
        newObject();
        addNumbersBlocks();
        addRefuses();
        addIsFull();
        addToWrongParent();
        workGrows();
        refuseTakesDescendants();
        refuseRefuses();
        refuseAgain();
        refuseLeavesOtherBranches();
        bestByWork();
        bestByArrival();
        bestByNumber();
        bestOfMoreWorkNotHeight();
        bestOfMoreWorkAtOneHeight();
        forkOfBranches();
        forkOfNone();
        dueKeepsTarget();
        dueAtEdges();
        dueTwice();
        dueLeastAndGreatest();
        dueWithTimesThatFall();
        dueFollowsItsOwnBranch();
        medianOfFew();
        medianOfSeven();
        medianOutOfOrder();
        medianFollowsItsOwnBranch();
        ancestors();
        looks();
        blocksCount();
        refusedCallsChangeNothing();
        objectsAreApart();
        check.end();
    }

    // promise 1

    private static void newObject() {
        WorkTree x = new WorkTree();
        check.due("new: blocks()", x.blocks(), 1);
        check.due("new: best()", x.best(), 0);
        check.looksLike(x, 0, 0, WorkTree.NONE, 0, 32768, 0, 0);
        check.due("new: median(0)", x.median(0), 0);
        check.due("new: due(0)", x.due(0), 32768);
        check.due("new: fork(0, 0)", x.fork(0, 0), 0);
        check.due("new: look(1, 0)", x.look(1, 0), WorkTree.NONE);
        check.due("REFUSED", WorkTree.REFUSED, -1);
        check.due("NONE", WorkTree.NONE, -2);
        check.due("FULL", WorkTree.FULL, -3);
    }

    // promise 2

    private static void addNumbersBlocks() {
        WorkTree x = new WorkTree();
        check.due("add(0, 1, 9)", x.add(0, 1, 9), 1);
        check.due("add(0, 30, 0)", x.add(0, 30, 0), 2);
        check.due("add(1, 40, max)", x.add(1, 40, Integer.MAX_VALUE), 3);
        check.looksLike(x, 1, 1, 0, 1, 32768, 512, 0);
        check.looksLike(x, 2, 1, 0, 30, 32768, 512, 0);
        check.looksLike(x, 3, 2, 1, 40, 32768, 1024, 0);
    }

    private static void addRefuses() {
        WorkTree x = new WorkTree();
        for (int none : NO_BLOCKS) {
            check.due("add(" + none + ", 5, 0)", x.add(none, 5, 0), WorkTree.REFUSED);
        }
        check.due("add to its own number", x.add(1, 5, 0), WorkTree.REFUSED);
        check.due("time at the median", x.add(0, 0, 0), WorkTree.REFUSED);
        check.due("time below the median", x.add(0, -1, 0), WorkTree.REFUSED);
        check.due("least time", x.add(0, Integer.MIN_VALUE, 0), WorkTree.REFUSED);
        check.due("arrival -1", x.add(0, 5, -1), WorkTree.REFUSED);
        check.due("least arrival", x.add(0, 5, Integer.MIN_VALUE), WorkTree.REFUSED);
        check.due("arrival 0", x.add(0, 5, 0), 1);
        check.due("time at the median of two", x.add(1, 5, 0), WorkTree.REFUSED);
        check.due("time just above the median", x.add(1, 6, 0), 2);
        check.due("time at the median of three", x.add(2, 5, 0), WorkTree.REFUSED);
        check.due("time above the median, at the parent's", x.add(2, 6, 0), 3);
        int far = check.chain(x, 2, 100);
        check.due("time at the median of four", x.add(far, 6, 0), WorkTree.REFUSED);
        check.due("time above the median, below the parent's", x.add(far, 7, 0), 5);
    }

    /** A chain of 512 blocks, made by 511 calls: one more call is promised an answer. */
    private static WorkTree full() {
        WorkTree x = new WorkTree();
        for (int block = 1; block < MOST_BLOCKS; block++) {
            check.due("add of block " + block, x.add(block - 1, block, 0), block);
        }
        return x;
    }

    private static void addIsFull() {
        check.due("full: add(511, 512, 0)", full().add(511, 512, 0), WorkTree.FULL);
        check.due("full: add(0, 1, 0)", full().add(0, 1, 0), WorkTree.FULL);
        check.due("full: no such parent first", full().add(512, 999, 0), WorkTree.REFUSED);
        check.due("full: least parent first", full().add(Integer.MIN_VALUE, 999, 0), WorkTree.REFUSED);
        check.due("full: time first", full().add(0, 0, 0), WorkTree.REFUSED);
        check.due("full: arrival first", full().add(0, 1, -1), WorkTree.REFUSED);
        check.due("full: blocks()", full().blocks(), MOST_BLOCKS);
        check.due("full: best()", full().best(), 511);
        check.due("full: fork(511, 300)", full().fork(511, 300), 300);
        check.due("full: median(511)", full().median(511), 508);
        check.due("full: due(511)", full().due(511), 2048);
        check.due("full: ancestor(511, 0)", full().ancestor(511, 0), 0);
        check.due("full: ancestor(511, 512)", full().ancestor(511, 512), WorkTree.NONE);
        check.due("full: look(511, 0)", full().look(511, 0), 511);
        // 7 blocks of target 32768, 8 of 8192, and 496 of 2048
        check.due("full: look(511, 4)", full().look(511, 4), 7 * 512 + 8 * 2048 + 496 * 8192);
        check.due("full: look(512, 0)", full().look(512, 0), WorkTree.NONE);
        check.due("full: refuse(511)", full().refuse(511), 510);
        check.due("full: refuse(512)", full().refuse(512), WorkTree.REFUSED);
        check.due("full: refuse(1)", full().refuse(1), 0);
    }

    private static void addToWrongParent() {
        WorkTree x = new WorkTree();
        check.chain(x, 0, 10);
        check.due("refuse(1)", x.refuse(1), 0);
        check.due("add to a wrong parent", x.add(1, 20, 0), 2);
        check.looksLike(x, 2, 2, 1, 20, 32768, 1024, 1);
        check.due("its child", x.add(2, 30, 0), 3);
        check.looksLike(x, 3, 3, 2, 30, 32768, 1536, 1);
        check.due("best() with wrong ones alone", x.best(), 0);
        check.due("wrong parent, time at the median", x.add(1, 10, 0), WorkTree.REFUSED);
    }

    private static void workGrows() {
        WorkTree x = new WorkTree();
        int last = check.chain(x, 0, 1, 2, 3, 4, 5, 6, 30);
        check.due("work of 7", x.look(last, 4), 7 * 512);
        last = check.chain(x, last, 31);
        // 32768 * 30 / 80 = 12288, and 16777216 / 12288 = 1365.33
        check.due("target of 8", x.look(last, 3), 12288);
        check.due("work of 8, rounded down", x.look(last, 4), 7 * 512 + 1365);
        last = check.chain(x, last, 32);
        check.due("work of 9, each rounded by itself", x.look(last, 4), 7 * 512 + 2 * 1365);
    }

    // promise 3

    private static void refuseTakesDescendants() {
        WorkTree x = new WorkTree();
        check.chain(x, 0, 10, 20, 30);
        check.chain(x, 1, 21, 31);
        check.chain(x, 0, 5);
        check.due("refuse(2)", x.refuse(2), 5);
        int[] due = {0, 0, 1, 1, 0, 0, 0};
        for (int block = 0; block < due.length; block++) {
            check.due("look(" + block + ", 5)", x.look(block, 5), due[block]);
        }
        check.due("refuse(1)", x.refuse(1), 6);
        int[] then = {0, 1, 1, 1, 1, 1, 0};
        for (int block = 0; block < then.length; block++) {
            check.due("then look(" + block + ", 5)", x.look(block, 5), then[block]);
        }
        check.due("refuse(6)", x.refuse(6), 0);
    }

    private static void refuseRefuses() {
        WorkTree x = new WorkTree();
        check.chain(x, 0, 10);
        check.due("refuse(0)", x.refuse(0), WorkTree.REFUSED);
        check.due("refuse(2)", x.refuse(2), WorkTree.REFUSED);
        for (int none : NO_BLOCKS) {
            check.due("refuse(" + none + ")", x.refuse(none), WorkTree.REFUSED);
        }
        check.due("block 0 is not wrong", x.look(0, 5), 0);
        check.due("block 1 is not wrong", x.look(1, 5), 0);
        check.due("a refusal that came too early", check.chain(x, 1, 20), 2);
        check.due("does not hold later", x.look(2, 5), 0);
    }

    private static void refuseAgain() {
        WorkTree x = new WorkTree();
        check.chain(x, 0, 10, 20);
        check.due("refuse(1)", x.refuse(1), 0);
        check.due("refuse(1) again", x.refuse(1), 0);
        check.due("refuse(2), wrong by its parent", x.refuse(2), 0);
        check.chain(x, 0, 11);
        check.due("refuse(2) again", x.refuse(2), 3);
        check.due("look(1, 5)", x.look(1, 5), 1);
    }

    private static void refuseLeavesOtherBranches() {
        WorkTree x = new WorkTree();
        check.chain(x, 0, 10, 20, 30);
        check.chain(x, 0, 10, 20);
        check.due("refuse of one that is not best", x.refuse(5), 3);
        check.due("refuse of the best", x.refuse(3), 2);
        check.due("look(4, 5)", x.look(4, 5), 0);
        check.due("refuse(1)", x.refuse(1), 4);
    }

    // promise 4

    private static void bestByWork() {
        WorkTree x = new WorkTree();
        check.due("add(0, 5, 9)", x.add(0, 5, 9), 1);
        check.due("more work than block 0, later arrival", x.best(), 1);
        check.due("add(1, 6, 100)", x.add(1, 6, 100), 2);
        check.due("more work, later arrival", x.best(), 2);
        check.due("add(0, 7, 0)", x.add(0, 7, 0), 3);
        check.due("less work, earlier arrival", x.best(), 2);
    }

    private static void bestByArrival() {
        WorkTree x = new WorkTree();
        x.add(0, 5, Integer.MAX_VALUE);
        x.add(0, 5, 7);
        check.due("earlier arrival, later number", x.best(), 2);
        x.add(0, 5, 8);
        check.due("later arrival, later number", x.best(), 2);
        x.add(0, 9, 0);
        check.due("arrival 0", x.best(), 4);
        check.due("refuse(4)", x.refuse(4), 2);
        check.due("refuse(2)", x.refuse(2), 3);
        check.due("refuse(3)", x.refuse(3), 1);
    }

    private static void bestByNumber() {
        WorkTree x = new WorkTree();
        x.add(0, 9, 4);
        x.add(0, 5, 4);
        x.add(0, 1, 4);
        check.due("the first of equal ones", x.best(), 1);
        check.due("refuse(1)", x.refuse(1), 2);
        check.due("best() answers the same again", x.best(), 2);
    }

    private static void bestOfMoreWorkNotHeight() {
        WorkTree x = new WorkTree();
        int root = check.chain(x, 0, 1, 2, 3, 4, 5, 6);
        // Behind a slow block 7 the target is easy, behind a fast one it is hard.
        int slow = check.chain(x, root, 1000, 1001, 1002, 1003);
        int fast = check.chain(x, root, 7, 8);
        check.due("height of the slow branch", x.look(slow, 0), 10);
        check.due("height of the fast branch", x.look(fast, 0), 8);
        check.due("work of the slow branch", x.look(slow, 4), 7 * 512 + 3 * 256);
        check.due("work of the fast branch", x.look(fast, 4), 7 * 512 + 2048);
        check.due("the lower one has more work", x.best(), fast);
    }

    private static void bestOfMoreWorkAtOneHeight() {
        WorkTree x = new WorkTree();
        int root = check.chain(x, 0, 1, 2, 3, 4, 5, 6);
        int slow = check.chain(x, root, 1000, 1001);
        int fast = x.add(check.chain(x, root, 7), 8, 50);
        check.due("more work, same height, later arrival", x.best(), fast);
        check.due("refuse of it", x.refuse(fast), slow);
    }

    // promise 5

    private static void forkOfBranches() {
        WorkTree x = new WorkTree();
        check.chain(x, 0, 10, 20, 30, 40);
        check.chain(x, 2, 31, 41, 51, 61);
        check.chain(x, 0, 10);
        int[][] due = {
            {4, 8, 2}, {3, 5, 2}, {4, 5, 2}, {3, 8, 2}, {4, 4, 4}, {2, 4, 2}, {2, 8, 2},
            {1, 8, 1}, {5, 8, 5}, {9, 8, 0}, {9, 1, 0}, {9, 9, 9}, {0, 8, 0}, {0, 0, 0}, {7, 6, 6}
        };
        for (int[] row : due) {
            check.due("fork(" + row[0] + ", " + row[1] + ")", x.fork(row[0], row[1]), row[2]);
            check.due("fork(" + row[1] + ", " + row[0] + ")", x.fork(row[1], row[0]), row[2]);
        }
        x.refuse(2);
        check.due("fork of wrong ones", x.fork(4, 8), 2);
    }

    private static void forkOfNone() {
        WorkTree x = new WorkTree();
        check.chain(x, 0, 10);
        for (int none : NO_BLOCKS) {
            check.due("fork(0, " + none + ")", x.fork(0, none), WorkTree.NONE);
            check.due("fork(" + none + ", 1)", x.fork(none, 1), WorkTree.NONE);
            check.due("fork(" + none + ", same)", x.fork(none, none), WorkTree.NONE);
        }
        check.due("fork(1, 2)", x.fork(1, 2), WorkTree.NONE);
        check.due("fork(2, 1)", x.fork(2, 1), WorkTree.NONE);
    }

    // promise 6

    private static void dueKeepsTarget() {
        WorkTree x = new WorkTree();
        for (int none : NO_BLOCKS) {
            check.due("due(" + none + ")", x.due(none), WorkTree.NONE);
        }
        check.due("due(1)", x.due(1), WorkTree.NONE);
        check.chain(x, 0, 1, 2, 3, 4, 5, 6, 7, 8);
        for (int block = 0; block < 7; block++) {
            check.due("due(" + block + ")", x.due(block), 32768);
        }
        check.due("due(7)", x.due(7), 8192);
        check.due("due(8)", x.due(8), 8192);
        check.due("look(7, 3)", x.look(7, 3), 32768);
        check.due("look(8, 3)", x.look(8, 3), 8192);
        check.due("due(9)", x.due(9), WorkTree.NONE);
        x.refuse(7);
        check.due("due of a wrong one", x.due(7), 8192);
    }

    /** What is due behind a block 7 of this time, with block 0 at time 0. */
    private static void dueAfter(int time, int due) {
        WorkTree x = new WorkTree();
        int last = check.chain(x, 0, 1, 2, 3, 4, 5, 6, time);
        check.due("due behind time " + time, x.due(last), due);
        int child = check.chain(x, last, Integer.MAX_VALUE);
        check.due("target behind time " + time, x.look(child, 3), due);
    }

    private static void dueAtEdges() {
        dueAfter(7, 8192);
        dueAfter(19, 8192);
        dueAfter(20, 8192);
        dueAfter(21, 8601);
        dueAfter(79, 32358);
        dueAfter(80, 32768);
        dueAfter(81, 33177);
        dueAfter(159, 65126);
        dueAfter(160, 65535);
        dueAfter(161, 65535);
        dueAfter(320, 65535);
        dueAfter(321, 65535);
        dueAfter(Integer.MAX_VALUE, 65535);
    }

    private static void dueTwice() {
        WorkTree x = new WorkTree();
        int last = check.chain(x, 0, 1, 2, 3, 4, 5, 6, 7);
        last = check.chain(x, last, 1000, 1001, 1002, 1003, 1004, 1005, 1006);
        check.due("due at height 14", x.due(last), 8192);
        // The span is from height 8 to height 15: 1055 - 1000.
        last = check.chain(x, last, 1055);
        check.due("due at height 15", x.due(last), 8192 * 55 / 80);
    }

    private static void dueLeastAndGreatest() {
        WorkTree x = new WorkTree();
        int last = 0;
        int time = 0;
        int[] due = {8192, 2048, 2048};
        for (int period = 0; period < due.length; period++) {
            for (int height = period == 0 ? 1 : 0; height < 8; height++) {
                last = check.chain(x, last, ++time);
            }
            check.due("due in a fast period " + period, x.due(last), due[period]);
        }
        // From the least target the greatest span leads to four times as much, and no further.
        last = check.chain(x, last, 1000, 1001, 1002, 1003, 1004, 1005, 1006);
        check.due("span 319", x.due(check.chain(x, last, 1319)), 2048 * 319 / 80);
        check.due("span 320", x.due(check.chain(x, last, 1320)), 8192);
        check.due("span 321", x.due(check.chain(x, last, 1321)), 8192);
        dueNearLeast();
    }

    private static void dueNearLeast() {
        WorkTree x = new WorkTree();
        int last = check.chain(x, 0, 1, 2, 3, 4, 5, 6, 7);
        last = check.chain(x, last, 100, 101, 102, 103, 104, 105, 106);
        check.due("span 20 of 8192", x.due(check.chain(x, last, 120)), 2048);
        last = check.chain(x, last, 121);
        check.due("span 21 of 8192", x.due(last), 2150);
        last = check.chain(x, last, 200, 201, 202, 203, 204, 205, 206, 207);
        check.due("span 20 of 2150 is held at the least", x.due(last), 2048);
    }

    private static void dueWithTimesThatFall() {
        WorkTree x = new WorkTree();
        int last = check.chain(x, 0, 1, 2, 3, 4, 5, 6, 80);
        // Height 8 is far ahead, so the span to height 15 is below 0.
        last = check.chain(x, last, Integer.MAX_VALUE, 81, 82, 83, 84, 85, 86, 87);
        check.due("height", x.look(last, 0), 15);
        check.due("a span below 0 counts as 20", x.due(last), 8192);
    }

    private static void dueFollowsItsOwnBranch() {
        WorkTree x = new WorkTree();
        int root = check.chain(x, 0, 1, 2, 3, 4, 5, 6);
        int one = check.chain(x, root, 40);
        int two = check.chain(x, root, 120);
        check.due("due of one", x.due(one), 16384);
        check.due("due of two", x.due(two), 49152);
        one = check.chain(x, one, 200, 201, 202, 203, 204, 205, 206, 240);
        two = check.chain(x, two, 200, 201, 202, 203, 204, 205, 206, 240);
        check.due("due of one, later", x.due(one), 8192);
        check.due("due of two, later", x.due(two), 24576);
    }

    // promise 7

    private static void medianOfFew() {
        WorkTree x = new WorkTree();
        for (int none : NO_BLOCKS) {
            check.due("median(" + none + ")", x.median(none), WorkTree.NONE);
        }
        check.due("median(1)", x.median(1), WorkTree.NONE);
        check.chain(x, 0, 10, 20, 30, 40, 50);
        int[] due = {0, 10, 10, 20, 20, 30};
        for (int block = 0; block < due.length; block++) {
            check.due("median(" + block + ")", x.median(block), due[block]);
        }
        check.due("median(6)", x.median(6), WorkTree.NONE);
    }

    private static void medianOfSeven() {
        WorkTree x = new WorkTree();
        check.chain(x, 0, 10, 20, 30, 40, 50, 60, 70, 80, 90);
        int[] due = {30, 40, 50, 60};
        for (int block = 6; block < 6 + due.length; block++) {
            check.due("median(" + block + ")", x.median(block), due[block - 6]);
        }
        check.due("add at the median", x.add(9, 60, 0), WorkTree.REFUSED);
        check.due("add just above the median", x.add(9, 61, 0), 10);
        x.refuse(3);
        check.due("median of a wrong one", x.median(9), 60);
    }

    /** The medians of block 0 and of a chain with these times behind it. */
    private static void mediansOfChain(int[] times, int... due) {
        WorkTree x = new WorkTree();
        check.chain(x, 0, times);
        for (int block = 0; block < due.length; block++) {
            check.due("chain of " + Arrays.toString(times) + ": median(" + block + ")", x.median(block), due[block]);
        }
    }

    private static void medianOutOfOrder() {
        mediansOfChain(new int[] {50, 70, 60, 65, 61, 62, 64, 63}, 0, 50, 50, 60, 60, 61, 61, 62, 63);
        // Equal times stand beside one another.
        mediansOfChain(new int[] {5, 9, 9, 10, 10, 10, 10}, 0, 5, 5, 9, 9, 9, 9, 10);
        // The far time counts for seven blocks, and then no more.
        mediansOfChain(new int[] {1, 2, 500, 3, 4, 5, 6, 7, 8, 9}, 0, 1, 1, 2, 2, 3, 3, 4, 5, 6, 6);
    }

    private static void medianFollowsItsOwnBranch() {
        WorkTree x = new WorkTree();
        check.chain(x, 0, 10, 20);
        int one = check.chain(x, 1, 100, 200, 300);
        int two = check.chain(x, 1, 11, 12, 13);
        check.due("median of one", x.median(one), 100);
        check.due("median of two", x.median(two), 11);
    }

    // promise 8

    private static void ancestors() {
        WorkTree x = new WorkTree();
        check.chain(x, 0, 10, 20, 30);
        check.chain(x, 1, 21, 31);
        int[] due = {0, 1, 4, 5};
        for (int height = 0; height < due.length; height++) {
            check.due("ancestor(5, " + height + ")", x.ancestor(5, height), due[height]);
        }
        int[] others = {-1, 4, 5, 512, -2, Integer.MIN_VALUE, Integer.MAX_VALUE};
        for (int height : others) {
            check.due("ancestor(5, " + height + ")", x.ancestor(5, height), WorkTree.NONE);
        }
        for (int none : NO_BLOCKS) {
            check.due("ancestor(" + none + ", 0)", x.ancestor(none, 0), WorkTree.NONE);
        }
        check.due("ancestor(6, 0)", x.ancestor(6, 0), WorkTree.NONE);
        check.due("ancestor(0, 0)", x.ancestor(0, 0), 0);
        check.due("ancestor(0, 1)", x.ancestor(0, 1), WorkTree.NONE);
        check.due("ancestor(0, -1)", x.ancestor(0, -1), WorkTree.NONE);
        x.refuse(1);
        check.due("ancestor of a wrong one", x.ancestor(3, 2), 2);
    }

    // promise 9

    private static void looks() {
        WorkTree x = new WorkTree();
        check.chain(x, 0, 10, 25);
        check.looksLike(x, 0, 0, WorkTree.NONE, 0, 32768, 0, 0);
        check.looksLike(x, 1, 1, 0, 10, 32768, 512, 0);
        check.looksLike(x, 2, 2, 1, 25, 32768, 1024, 0);
        x.refuse(1);
        check.looksLike(x, 0, 0, WorkTree.NONE, 0, 32768, 0, 0);
        check.looksLike(x, 1, 1, 0, 10, 32768, 512, 1);
        check.looksLike(x, 2, 2, 1, 25, 32768, 1024, 1);
        int[] others = {-1, 6, 7, Integer.MIN_VALUE, Integer.MAX_VALUE};
        for (int what : others) {
            check.due("look(1, " + what + ")", x.look(1, what), WorkTree.REFUSED);
            for (int none : NO_BLOCKS) {
                check.due("look(" + none + ", " + what + ")", x.look(none, what), WorkTree.REFUSED);
            }
        }
        for (int what = 0; what < 6; what++) {
            check.due("look(3, " + what + ")", x.look(3, what), WorkTree.NONE);
            for (int none : NO_BLOCKS) {
                check.due("look(" + none + ", " + what + ")", x.look(none, what), WorkTree.NONE);
            }
        }
    }

    // promise 10

    private static void blocksCount() {
        WorkTree x = new WorkTree();
        for (int blocks = 1; blocks < 20; blocks++) {
            check.due("blocks()", x.blocks(), blocks);
            x.add(blocks / 2, 1000 + blocks, 0);
        }
        x.refuse(1);
        check.due("blocks() counts wrong ones too", x.blocks(), 20);
    }

    private static void refusedCallsChangeNothing() {
        WorkTree x = new WorkTree();
        check.chain(x, 0, 10, 20);
        x.add(9, 50, 0);
        x.add(2, 10, 0);
        x.add(2, 50, -1);
        x.refuse(0);
        x.refuse(3);
        x.look(2, 9);
        check.due("blocks()", x.blocks(), 3);
        check.due("best()", x.best(), 2);
        check.looksLike(x, 2, 2, 1, 20, 32768, 1024, 0);
        check.due("the next number", x.add(2, 30, 0), 3);
        check.looksLike(x, 3, 3, 2, 30, 32768, 1536, 0);
    }

    private static void objectsAreApart() {
        WorkTree x = new WorkTree();
        check.chain(x, 0, 10, 20);
        WorkTree y = new WorkTree();
        check.due("blocks() of another", y.blocks(), 1);
        y.add(0, 7, 0);
        y.refuse(1);
        check.due("look(1, 2) of the first", x.look(1, 2), 10);
        check.due("look(1, 5) of the first", x.look(1, 5), 0);
        check.due("best() of the first", x.best(), 2);
    }
}
