/**
 * One test for each sentence of the promises that names a boundary case.
 * No object here has more than the 512 calls that the document speaks of.
 */
public final class PromiseBoundariesTest {
    private static final int MOST_BLOCKS = 512;
    private static final int MIN = Integer.MIN_VALUE;
    private static final int MAX = Integer.MAX_VALUE;
    /** Numbers that no block ever has, and the answers of other calls among them. */
    private static final int[] NEVER_BLOCKS = {MIN, MIN + 1, -512, -3, -2, -1, 512, 513, 65536, MAX - 1, MAX};
    private static final Check check = new Check();

    public static void main(String[] args) {
        check.sentence("REFUSED = -1, NONE = -2, FULL = -3", PromiseBoundariesTest::constants);
        check.sentence("1: BLOCK 0 alone.", PromiseBoundariesTest::newObject);
        check.sentence("2: A BLOCK comes with a parent, a TIME and an ARRIVAL: its number.",
            PromiseBoundariesTest::addAnswersNumber);
        check.sentence("2: REFUSED if there is no such parent", PromiseBoundariesTest::addWithoutParent);
        check.sentence("2: [REFUSED if] the TIME is not above its MEDIAN", PromiseBoundariesTest::addAtMedian);
        check.sentence("2: [REFUSED if] the ARRIVAL is below 0", PromiseBoundariesTest::addOfArrivalBelow);
        check.sentence("2: (a parent may be WRONG)", PromiseBoundariesTest::addToWrongParent);
        check.sentence("2: behind that FULL with 512.", PromiseBoundariesTest::addWhenFull);
        check.sentence("3: A BLOCK is refused: which one is the BEST then.", PromiseBoundariesTest::refuseAnswersBest);
        check.sentence("3: REFUSED if there is none, or for BLOCK 0", PromiseBoundariesTest::refuseOfNone);
        check.sentence("3: (one may be refused again).", PromiseBoundariesTest::refuseAgain);
        check.sentence("4: The BEST BLOCK.", PromiseBoundariesTest::best);
        check.sentence("5: The BLOCK of greatest HEIGHT that is each of two or an ancestor of it.",
            PromiseBoundariesTest::fork);
        check.sentence("5: NONE if one of them is none.", PromiseBoundariesTest::forkOfNone);
        check.sentence("6: The TARGET that is DUE behind a BLOCK", PromiseBoundariesTest::due);
        check.sentence("6: NONE if there is none.", PromiseBoundariesTest::dueOfNone);
        check.sentence("7: The MEDIAN of a BLOCK", PromiseBoundariesTest::median);
        check.sentence("7: NONE if there is none.", PromiseBoundariesTest::medianOfNone);
        check.sentence("8: The BLOCK of a HEIGHT (0 to its own) that is a BLOCK or an ancestor of it",
            PromiseBoundariesTest::ancestor);
        check.sentence("8: NONE if there is none (no such BLOCK, or another HEIGHT).",
            PromiseBoundariesTest::ancestorOfNone);
        check.sentence("9: Of a BLOCK, what 0: its HEIGHT, 1: its parent (NONE for BLOCK 0), 2: TIME, 3: TARGET,"
            + " 4: WORK, 5: 1 if it is WRONG, else 0.", PromiseBoundariesTest::look);
        check.sentence("9: NONE if there is none", PromiseBoundariesTest::lookOfNone);
        check.sentence("9: REFUSED for another what, first.", PromiseBoundariesTest::lookOfAnotherWhat);
        check.sentence("10: How many BLOCKS there are.", PromiseBoundariesTest::blocks);
        check.sentence("A refused call changes nothing.", PromiseBoundariesTest::refusedCallsChangeNothing);
        check.end();
    }

    /** Blocks 1 and 2 in a chain, 3 and 4 in another; the next number is 5. */
    private static WorkTree twoBranches() {
        WorkTree x = new WorkTree();
        check.chain(x, 0, 10, 20);
        check.chain(x, 0, 11, 21);
        return x;
    }

    /** A chain of 512 blocks, made by 511 calls, so that one more is promised an answer. */
    private static WorkTree full() {
        WorkTree x = new WorkTree();
        for (int block = 1; block < MOST_BLOCKS; block++) {
            check.due("add of block " + block, x.add(block - 1, block, 0), block);
        }
        return x;
    }

    private static void constants() {
        check.due("REFUSED", WorkTree.REFUSED, -1);
        check.due("NONE", WorkTree.NONE, -2);
        check.due("FULL", WorkTree.FULL, -3);
    }

    // promise 1

    private static void newObject() {
        WorkTree x = new WorkTree();
        check.due("blocks()", x.blocks(), 1);
        check.due("best()", x.best(), 0);
        check.looksLike(x, 0, 0, WorkTree.NONE, 0, 32768, 0, 0);
        check.due("due(0)", x.due(0), 32768);
        check.due("median(0)", x.median(0), 0);
        check.due("look(1, 0)", x.look(1, 0), WorkTree.NONE);
        check.due("refuse(1)", x.refuse(1), WorkTree.REFUSED);
        check.due("add(1, 1, 0)", x.add(1, 1, 0), WorkTree.REFUSED);
        twoBranches();
        check.due("blocks() of another new one", new WorkTree().blocks(), 1);
    }

    // promise 2

    private static void addAnswersNumber() {
        WorkTree x = new WorkTree();
        check.due("least time and arrival", x.add(0, 1, 0), 1);
        check.due("greatest time and arrival", x.add(0, MAX, MAX), 2);
        check.due("the same once more", x.add(0, MAX, MAX), 3);
        check.due("behind an earlier one", x.add(1, 2, 5), 4);
        check.looksLike(x, 1, 1, 0, 1, 32768, 512, 0);
        check.looksLike(x, 2, 1, 0, MAX, 32768, 512, 0);
        check.looksLike(x, 4, 2, 1, 2, 32768, 1024, 0);
    }

    private static void addWithoutParent() {
        WorkTree x = twoBranches();
        for (int none : NEVER_BLOCKS) {
            check.due("add(" + none + ", 50, 0)", x.add(none, 50, 0), WorkTree.REFUSED);
        }
        check.due("its own number to be", x.add(5, 50, 0), WorkTree.REFUSED);
        check.due("the number behind that", x.add(6, 50, 0), WorkTree.REFUSED);
        check.due("the last one there is", x.add(4, 50, 0), 5);
        check.due("the first one there is", x.add(0, 50, 0), 6);
    }

    private static void addAtMedian() {
        WorkTree x = new WorkTree();
        for (int time : new int[] {0, -1, -2, -3, MIN, MIN + 1}) {
            check.due("add(0, " + time + ", 0)", x.add(0, time, 0), WorkTree.REFUSED);
        }
        check.chain(x, 0, 10, 20, 30, 40, 50, 60, 70);
        int[] medians = {0, 10, 10, 20, 20, 30, 30, 40};
        for (int block = 0; block < medians.length; block++) {
            int median = medians[block];
            check.due("below the median of " + block, x.add(block, median - 1, 0), WorkTree.REFUSED);
            check.due("at the median of " + block, x.add(block, median, 0), WorkTree.REFUSED);
            check.due("above the median of " + block, x.add(block, median + 1, 0), 8 + block);
        }
        int far = x.add(0, MAX, 0);
        for (int time : new int[] {MAX, MAX - 1, 0, MIN}) {
            check.due("behind the greatest time: " + time, x.add(far, time, 0), WorkTree.REFUSED);
        }
    }

    private static void addOfArrivalBelow() {
        WorkTree x = new WorkTree();
        for (int arrival : new int[] {-1, -2, -3, MIN, MIN + 1}) {
            check.due("add(0, 5, " + arrival + ")", x.add(0, 5, arrival), WorkTree.REFUSED);
        }
        check.due("arrival 0", x.add(0, 5, 0), 1);
        check.due("arrival 1", x.add(0, 5, 1), 2);
        check.due("the greatest arrival", x.add(0, 5, MAX), 3);
        check.due("an arrival before its parent's", x.add(3, 6, 0), 4);
    }

    private static void addToWrongParent() {
        WorkTree x = twoBranches();
        check.due("refuse(1)", x.refuse(1), 4);
        check.due("behind a refused one", x.add(1, 30, 0), 5);
        check.due("behind its child", x.add(2, 30, 0), 6);
        check.due("behind a wrong one that came later", x.add(5, 30, 0), 7);
        check.looksLike(x, 5, 2, 1, 30, 32768, 1024, 1);
        check.looksLike(x, 6, 3, 2, 30, 32768, 1536, 1);
        check.looksLike(x, 7, 3, 5, 30, 32768, 1536, 1);
        check.due("at its median", x.add(1, 10, 0), WorkTree.REFUSED);
        check.due("arrival below 0", x.add(1, 30, -1), WorkTree.REFUSED);
        check.due("best()", x.best(), 4);
    }

    private static void addWhenFull() {
        check.due("behind the last", full().add(511, MAX, MAX), WorkTree.FULL);
        check.due("behind block 0", full().add(0, 1, 0), WorkTree.FULL);
        check.due("just above the median", full().add(511, 509, 0), WorkTree.FULL);
        check.due("no such parent: 512", full().add(512, MAX, 0), WorkTree.REFUSED);
        check.due("no such parent: -1", full().add(-1, MAX, 0), WorkTree.REFUSED);
        check.due("no such parent: MAX", full().add(MAX, MAX, 0), WorkTree.REFUSED);
        check.due("no such parent: MIN", full().add(MIN, MAX, 0), WorkTree.REFUSED);
        check.due("at the median of the last", full().add(511, 508, 0), WorkTree.REFUSED);
        check.due("at the median of block 0", full().add(0, 0, 0), WorkTree.REFUSED);
        check.due("arrival -1", full().add(0, 1, -1), WorkTree.REFUSED);
        check.due("arrival MIN", full().add(511, MAX, MIN), WorkTree.REFUSED);
        check.due("blocks()", full().blocks(), MOST_BLOCKS);
        notYetFull();
    }

    private static void notYetFull() {
        WorkTree x = new WorkTree();
        for (int block = 1; block < MOST_BLOCKS - 1; block++) {
            x.add(0, 1, 0);
        }
        check.due("511 blocks", x.blocks(), MOST_BLOCKS - 1);
        check.due("one more comes", x.add(0, 1, 0), MOST_BLOCKS - 1);
    }

    // promise 3

    private static void refuseAnswersBest() {
        WorkTree x = twoBranches();
        check.due("one that is not the best", x.refuse(4), 2);
        check.due("the best", x.refuse(2), 1);
        check.due("the best again", x.refuse(1), 3);
        check.due("the last that is not wrong", x.refuse(3), 0);
        check.due("best()", x.best(), 0);
        check.due("the last of 512", full().refuse(511), 510);
        check.due("the middle of 512", full().refuse(256), 255);
        check.due("the first of 512", full().refuse(1), 0);
    }

    private static void refuseOfNone() {
        WorkTree x = twoBranches();
        for (int none : NEVER_BLOCKS) {
            check.due("refuse(" + none + ")", x.refuse(none), WorkTree.REFUSED);
        }
        check.due("the next number", x.refuse(5), WorkTree.REFUSED);
        check.due("block 0", x.refuse(0), WorkTree.REFUSED);
        check.due("block 0 again", x.refuse(0), WorkTree.REFUSED);
        check.due("best()", x.best(), 2);
        for (int block = 0; block < 5; block++) {
            check.due("look(" + block + ", 5)", x.look(block, 5), 0);
        }
        check.due("the next number comes", x.add(2, 30, 0), 5);
        check.due("and is not wrong", x.look(5, 5), 0);
        check.due("512 of 512", full().refuse(512), WorkTree.REFUSED);
        check.due("block 0 of 512", full().refuse(0), WorkTree.REFUSED);
        check.due("block 0 of a new one", new WorkTree().refuse(0), WorkTree.REFUSED);
    }

    private static void refuseAgain() {
        WorkTree x = twoBranches();
        check.due("refuse(1)", x.refuse(1), 4);
        check.due("again", x.refuse(1), 4);
        check.due("one that is wrong by its parent", x.refuse(2), 4);
        check.due("and again", x.refuse(2), 4);
        check.due("a better one comes", x.add(4, 50, 0), 5);
        check.due("the answer is of now", x.refuse(1), 5);
        int[] due = {0, 1, 1, 0, 0, 0};
        for (int block = 0; block < due.length; block++) {
            check.due("look(" + block + ", 5)", x.look(block, 5), due[block]);
        }
    }

    // promise 4

    private static void best() {
        WorkTree x = new WorkTree();
        check.due("block 0 alone", x.best(), 0);
        x.add(0, 5, MAX);
        check.due("the only other one", x.best(), 1);
        check.due("asked again", x.best(), 1);
        x.add(0, 5, MAX);
        check.due("an equal one does not change it", x.best(), 1);
        x.add(0, 5, MAX - 1);
        check.due("an earlier one does", x.best(), 3);
        x.add(2, 6, MAX);
        check.due("more work does", x.best(), 4);
        x.refuse(2);
        check.due("without the wrong ones", x.best(), 3);
        check.due("the last of 512", full().best(), 511);
    }

    // promise 5

    private static void forkBothWays(WorkTree x, int one, int two, int due) {
        check.due("fork(" + one + ", " + two + ")", x.fork(one, two), due);
        check.due("fork(" + two + ", " + one + ")", x.fork(two, one), due);
    }

    private static void fork() {
        WorkTree x = new WorkTree();
        check.chain(x, 0, 10, 20, 30);
        check.chain(x, 1, 21, 31, 41);
        forkBothWays(x, 0, 0, 0);
        forkBothWays(x, 6, 6, 6);
        forkBothWays(x, 0, 6, 0);
        forkBothWays(x, 5, 6, 5);
        forkBothWays(x, 1, 3, 1);
        forkBothWays(x, 2, 4, 1);
        forkBothWays(x, 3, 4, 1);
        forkBothWays(x, 3, 6, 1);
        forkBothWays(x, 2, 6, 1);
        check.chain(x, 0, 10);
        forkBothWays(x, 7, 6, 0);
        forkBothWays(x, 7, 1, 0);
        x.refuse(1);
        forkBothWays(x, 3, 6, 1);
        check.due("the first and the last of 512", full().fork(0, 511), 0);
        check.due("the last two of 512", full().fork(511, 510), 510);
        check.due("the last of 512 with itself", full().fork(511, 511), 511);
        forkOfLongBranches();
    }

    private static void forkOfLongBranches() {
        WorkTree x = new WorkTree();
        int left = 0;
        int right = 0;
        for (int height = 1; height <= 250; height++) {
            left = x.add(left, height, 0);
            right = x.add(right, height, 0);
        }
        check.due("height", x.look(right, 0), 250);
        forkBothWays(x, left, right, 0);
        forkBothWays(x, left, 2, 0);
        forkBothWays(x, left, 1, 1);
    }

    private static void forkOfNone() {
        WorkTree x = twoBranches();
        for (int none : NEVER_BLOCKS) {
            forkBothWays(x, none, 0, WorkTree.NONE);
            forkBothWays(x, none, 4, WorkTree.NONE);
            check.due("fork(" + none + ", the same)", x.fork(none, none), WorkTree.NONE);
        }
        forkBothWays(x, 5, 4, WorkTree.NONE);
        forkBothWays(x, 5, 5, WorkTree.NONE);
        forkBothWays(x, 5, -1, WorkTree.NONE);
        forkBothWays(x, MIN, MAX, WorkTree.NONE);
        check.due("512 of 512", full().fork(512, 511), WorkTree.NONE);
        check.due("512 of 512, as second", full().fork(511, 512), WorkTree.NONE);
    }

    // promise 6

    private static void due() {
        WorkTree x = new WorkTree();
        int seven = check.chain(x, 0, 1, 2, 3, 4, 5, 6, 40);
        check.due("behind height 0", x.due(0), 32768);
        check.due("behind height 6", x.due(6), 32768);
        check.due("behind height 7", x.due(seven), 16384);
        int eight = check.chain(x, seven, 50);
        check.due("behind height 8", x.due(eight), 16384);
        check.due("as its child has it", x.look(eight, 3), 16384);
        x.refuse(seven);
        check.due("behind a wrong one", x.due(seven), 16384);
        check.due("behind the last of 512", full().due(511), 2048);
    }

    private static void dueOfNone() {
        WorkTree x = twoBranches();
        for (int none : NEVER_BLOCKS) {
            check.due("due(" + none + ")", x.due(none), WorkTree.NONE);
        }
        check.due("due(5)", x.due(5), WorkTree.NONE);
        check.due("due(4)", x.due(4), 32768);
        check.due("512 of 512", full().due(512), WorkTree.NONE);
    }

    // promise 7

    private static void median() {
        WorkTree x = new WorkTree();
        check.due("of block 0", x.median(0), 0);
        check.chain(x, 0, 1, MAX, 2);
        check.due("of two", x.median(1), 1);
        check.due("of three", x.median(2), 1);
        check.due("of four", x.median(3), 2);
        x.refuse(1);
        check.due("of a wrong one", x.median(3), 2);
        x.add(0, MAX, 0);
        check.due("the greatest there is", x.median(4), MAX);
        check.due("of the last of 512", full().median(511), 508);
    }

    private static void medianOfNone() {
        WorkTree x = twoBranches();
        for (int none : NEVER_BLOCKS) {
            check.due("median(" + none + ")", x.median(none), WorkTree.NONE);
        }
        check.due("median(5)", x.median(5), WorkTree.NONE);
        check.due("median(4)", x.median(4), 11);
        check.due("512 of 512", full().median(512), WorkTree.NONE);
    }

    // promise 8

    private static void ancestor() {
        WorkTree x = new WorkTree();
        check.chain(x, 0, 10, 20, 30);
        check.chain(x, 1, 21, 31);
        check.due("of block 0", x.ancestor(0, 0), 0);
        int[] due = {0, 1, 4, 5};
        for (int height = 0; height < due.length; height++) {
            check.due("ancestor(5, " + height + ")", x.ancestor(5, height), due[height]);
        }
        check.due("of the other branch", x.ancestor(3, 2), 2);
        x.refuse(1);
        check.due("of a wrong one", x.ancestor(5, 2), 4);
        check.due("least height of 512", full().ancestor(511, 0), 0);
        check.due("height 1 of 512", full().ancestor(511, 1), 1);
        check.due("own height of 512", full().ancestor(511, 511), 511);
    }

    private static void ancestorOfNone() {
        WorkTree x = twoBranches();
        for (int none : NEVER_BLOCKS) {
            check.due("ancestor(" + none + ", 0)", x.ancestor(none, 0), WorkTree.NONE);
            check.due("ancestor(" + none + ", the same)", x.ancestor(none, none), WorkTree.NONE);
        }
        check.due("ancestor(5, 0)", x.ancestor(5, 0), WorkTree.NONE);
        for (int height : new int[] {MIN, MIN + 1, -2, -1, 3, 4, 512, MAX - 1, MAX}) {
            check.due("ancestor(4, " + height + ")", x.ancestor(4, height), WorkTree.NONE);
            check.due("ancestor(0, " + height + ")", x.ancestor(0, height), WorkTree.NONE);
        }
        check.due("one above block 0", x.ancestor(0, 1), WorkTree.NONE);
        check.due("its own height", x.ancestor(4, 2), 4);
        check.due("above the last of 512", full().ancestor(511, 512), WorkTree.NONE);
        check.due("512 of 512", full().ancestor(512, 511), WorkTree.NONE);
    }

    // promise 9

    private static void look() {
        WorkTree x = new WorkTree();
        check.chain(x, 0, 1, 2, 3, 4, 5, 6, 40, MAX);
        check.looksLike(x, 0, 0, WorkTree.NONE, 0, 32768, 0, 0);
        check.looksLike(x, 1, 1, 0, 1, 32768, 512, 0);
        check.looksLike(x, 8, 8, 7, MAX, 16384, 7 * 512 + 1024, 0);
        x.refuse(8);
        check.due("look(8, 5)", x.look(8, 5), 1);
        check.due("look(7, 5)", x.look(7, 5), 0);
        check.due("height of the last of 512", full().look(511, 0), 511);
        check.due("parent of the last of 512", full().look(511, 1), 510);
        check.due("target of the last of 512", full().look(511, 3), 2048);
    }

    private static void lookOfNone() {
        WorkTree x = twoBranches();
        for (int what = 0; what <= 5; what++) {
            for (int none : NEVER_BLOCKS) {
                check.due("look(" + none + ", " + what + ")", x.look(none, what), WorkTree.NONE);
            }
            check.due("look(5, " + what + ")", x.look(5, what), WorkTree.NONE);
            check.due("512 of 512, " + what, full().look(512, what), WorkTree.NONE);
        }
        check.due("look(4, 0)", x.look(4, 0), 2);
    }

    private static void lookOfAnotherWhat() {
        WorkTree x = twoBranches();
        for (int what : new int[] {MIN, MIN + 1, -3, -2, -1, 6, 7, 65536, MAX - 1, MAX}) {
            check.due("look(0, " + what + ")", x.look(0, what), WorkTree.REFUSED);
            check.due("look(4, " + what + ")", x.look(4, what), WorkTree.REFUSED);
            check.due("first, look(5, " + what + ")", x.look(5, what), WorkTree.REFUSED);
            for (int none : NEVER_BLOCKS) {
                check.due("first, look(" + none + ", " + what + ")", x.look(none, what), WorkTree.REFUSED);
            }
        }
        check.due("what 0", x.look(4, 0), 2);
        check.due("what 5", x.look(4, 5), 0);
    }

    // promise 10

    private static void blocks() {
        WorkTree x = new WorkTree();
        check.due("block 0 is counted", x.blocks(), 1);
        x.add(0, 1, 0);
        check.due("with one more", x.blocks(), 2);
        x.add(0, 0, 0);
        check.due("a refused add is not counted", x.blocks(), 2);
        x.refuse(1);
        check.due("a wrong one is counted", x.blocks(), 2);
        x.add(1, 2, 0);
        check.due("one that comes wrong is counted", x.blocks(), 3);
        check.due("the most", full().blocks(), MOST_BLOCKS);
    }

    /** What calls that answer REFUSED or NONE leave as it was; the promises name no change there. */
    private static void refusedCallsChangeNothing() {
        WorkTree x = twoBranches();
        for (int none : NEVER_BLOCKS) {
            x.add(none, 50, 0);
            x.refuse(none);
            x.fork(none, 1);
            x.due(none);
            x.median(none);
            x.ancestor(4, none);
            x.look(4, none);
        }
        x.add(4, 11, 0);
        x.add(4, 50, -1);
        x.refuse(0);
        x.refuse(5);
        check.due("blocks()", x.blocks(), 5);
        check.due("best()", x.best(), 2);
        check.looksLike(x, 0, 0, WorkTree.NONE, 0, 32768, 0, 0);
        check.looksLike(x, 4, 2, 3, 21, 32768, 1024, 0);
        check.due("median(4)", x.median(4), 11);
        check.due("the next number", x.add(4, 12, 0), 5);
        check.looksLike(x, 5, 3, 4, 12, 32768, 1536, 0);
    }
}
