import java.util.Arrays;

/**
 * One test for each sentence of "What it is" and "Terms" that names a boundary case.
 * Only the calls that an object is used for count here: 512 after it has been made.
 */
public final class TermsBoundariesTest {
    private static final int MOST_BLOCKS = 512;
    private static final int MOST_CALLS = 512;
    private static final int MAX = Integer.MAX_VALUE;
    private static final Check check = new Check();

    public static void main(String[] args) {
        check.sentence("An object is used for at most 512 calls after it has been made;"
            + " what later calls answer is free.", TermsBoundariesTest::calls);
        check.sentence("BLOCKS are numbered as they come, at most 512", TermsBoundariesTest::numbers);
        check.sentence("BLOCK 0 is there at first: HEIGHT 0, TIME 0, TARGET 32768, no WORK, ARRIVAL 0.",
            TermsBoundariesTest::blockZero);
        check.sentence("Each other one has a parent, and a HEIGHT one greater", TermsBoundariesTest::heights);
        check.sentence("a TIME above the MEDIAN of its parent", TermsBoundariesTest::times);
        check.sentence("and the WORK of its parent and 16777216 / TARGET (rounded down)", TermsBoundariesTest::works);
        check.sentence("MEDIAN of a BLOCK: of the TIMES of it and its latest ancestors, 7",
            TermsBoundariesTest::medianOfSeven);
        check.sentence("or as many as there are, n in order, the one with n / 2 below it.",
            TermsBoundariesTest::medianOfFewer);
        check.sentence("DUE behind a BLOCK, the TARGET of its children: its own one,"
            + " but [..] if 8 divides their HEIGHT h", TermsBoundariesTest::dueChangesAtEight);
        check.sentence("t * s / 80 (rounded down", TermsBoundariesTest::dueIsRoundedDown);
        check.sentence("at least 2048", TermsBoundariesTest::dueIsAtLeast);
        check.sentence("at most 65535)", TermsBoundariesTest::dueIsAtMost);
        check.sentence("t its TARGET, s its TIME without that of its ancestor of HEIGHT h - 8",
            TermsBoundariesTest::dueSpan);
        check.sentence("of at least 20", TermsBoundariesTest::dueSpanIsAtLeast);
        check.sentence("and at most 320.", TermsBoundariesTest::dueSpanIsAtMost);
        check.sentence("A BLOCK is WRONG if it was refused, or its parent is WRONG.", TermsBoundariesTest::wrongOnes);
        check.sentence("THE BEST is that of the BLOCKS that are not WRONG", TermsBoundariesTest::bestIsNotWrong);
        check.sentence("with the most WORK", TermsBoundariesTest::bestHasMostWork);
        check.sentence("of several the one of least ARRIVAL", TermsBoundariesTest::bestOfLeastArrival);
        check.sentence("of these the first.", TermsBoundariesTest::bestIsTheFirst);
        check.end();
    }

    /**
     * Chains of eight heights behind block 0, each begun far behind all times before it;
     * the last block of each comes a span behind its first. Answers the last block.
     */
    private static int periods(WorkTree x, int... spans) {
        int last = 0;
        int start = 0;
        for (int period = 0; period < spans.length; period++) {
            if (period > 0) {
                last = check.chain(x, last, start);
            }
            last = check.chain(x, last, start + 1, start + 2, start + 3, start + 4, start + 5, start + 6,
                start + spans[period]);
            start += 10_000;
        }
        check.due("height behind " + spans.length + " periods", x.look(last, 0), 8L * spans.length - 1);
        return last;
    }

    /** What is due behind these spans, and that a child gets it. */
    private static void dueBehind(int due, int... spans) {
        WorkTree x = new WorkTree();
        int last = periods(x, spans);
        String name = "due behind spans " + Arrays.toString(spans);
        check.due(name, x.due(last), due);
        check.due(name + ", of a child", x.look(check.chain(x, last, MAX), 3), due);
    }

    /** A tree that has had so many calls, all of them of blocks(). */
    private static WorkTree afterCalls(int calls) {
        WorkTree x = new WorkTree();
        for (int call = 0; call < calls; call++) {
            check.due("blocks() as call " + (call + 1), x.blocks(), 1);
        }
        return x;
    }

    private static void calls() {
        check.due("add as 512th call", afterCalls(MOST_CALLS - 1).add(0, 1, 0), 1);
        check.due("refused add as 512th call", afterCalls(MOST_CALLS - 1).add(0, 0, 0), WorkTree.REFUSED);
        check.due("refuse as 512th call", afterCalls(MOST_CALLS - 1).refuse(0), WorkTree.REFUSED);
        check.due("best as 512th call", afterCalls(MOST_CALLS - 1).best(), 0);
        check.due("fork as 512th call", afterCalls(MOST_CALLS - 1).fork(0, 0), 0);
        check.due("due as 512th call", afterCalls(MOST_CALLS - 1).due(0), 32768);
        check.due("median as 512th call", afterCalls(MOST_CALLS - 1).median(0), 0);
        check.due("ancestor as 512th call", afterCalls(MOST_CALLS - 1).ancestor(0, 0), 0);
        check.due("look as 512th call", afterCalls(MOST_CALLS - 1).look(0, 3), 32768);
        check.due("blocks as 512th call", afterCalls(MOST_CALLS - 1).blocks(), 1);
        laterCallsEnd(afterCalls(MOST_CALLS));
        laterCallsEnd(chainOf(MOST_BLOCKS));
    }

    /** Their answers are free, but they may not throw or fail to end. */
    private static void laterCallsEnd(WorkTree x) {
        for (int call = 0; call < 4 * MOST_CALLS; call++) {
            x.add(Math.max(0, x.blocks() - 1), call + 1, call);
            x.add(0, MAX, 0);
            x.refuse(call);
            x.best();
            x.fork(call, x.blocks() - 1);
            x.due(call);
            x.median(call);
            x.ancestor(x.blocks() - 1, call);
            x.look(call, call % 6);
        }
        check.holds("later calls end", true);
    }

    /** A chain of so many blocks with block 0, made by one call less. */
    private static WorkTree chainOf(int blocks) {
        WorkTree x = new WorkTree();
        for (int block = 1; block < blocks; block++) {
            check.due("add(" + (block - 1) + ", " + block + ", 0)", x.add(block - 1, block, 0), block);
        }
        return x;
    }

    /** Block 0 with all others as its children, of times and arrivals that fall. */
    private static WorkTree starOf(int blocks) {
        WorkTree x = new WorkTree();
        for (int block = 1; block < blocks; block++) {
            check.due("child " + block + " of block 0", x.add(0, blocks - block, blocks - block), block);
        }
        return x;
    }

    private static void numbers() {
        check.due("chain: one below the most", chainOf(MOST_BLOCKS - 1).add(510, 511, 0), 511);
        check.due("chain: at the most", chainOf(MOST_BLOCKS).add(511, 512, 0), WorkTree.FULL);
        check.due("star: one below the most", starOf(MOST_BLOCKS - 1).add(0, 1, 0), 511);
        check.due("star: at the most", starOf(MOST_BLOCKS).add(0, 1, 0), WorkTree.FULL);
        check.due("the last number is there", chainOf(MOST_BLOCKS).look(511, 2), 511);
        check.due("no number behind it", chainOf(MOST_BLOCKS).look(512, 2), WorkTree.NONE);
        WorkTree x = new WorkTree();
        check.due("first number", x.add(0, 1, 0), 1);
        check.due("a refused add has no number", x.add(1, 1, 0), WorkTree.REFUSED);
        check.due("refuse(1)", x.refuse(1), 0);
        check.due("the number of a refused block is not used again", x.add(0, 1, 0), 2);
    }

    private static void blockZero() {
        WorkTree x = new WorkTree();
        check.looksLike(x, 0, 0, WorkTree.NONE, 0, 32768, 0, 0);
        check.due("time 0: its median", x.median(0), 0);
        check.due("block 1 is not there", x.look(1, 0), WorkTree.NONE);
        x.add(0, MAX, MAX);
        check.due("no work: any other has more, of the latest arrival too", x.best(), 1);
        check.due("refuse(1)", x.refuse(1), 0);
        check.looksLike(x, 0, 0, WorkTree.NONE, 0, 32768, 0, 0);
    }

    private static void heights() {
        WorkTree x = new WorkTree();
        x.add(0, 1, 0);
        x.add(1, 2, 0);
        x.add(0, 3, 0);
        x.add(2, 4, 0);
        x.add(2, 5, 0);
        int[] parents = {WorkTree.NONE, 0, 1, 0, 2, 2};
        int[] due = {0, 1, 2, 1, 3, 3};
        for (int block = 0; block < due.length; block++) {
            check.looksLike(x, block, due[block], parents[block]);
        }
        check.due("greatest height", chainOf(MOST_BLOCKS).look(511, 0), 511);
        check.due("least height of another one", starOf(MOST_BLOCKS).look(511, 0), 1);
    }

    private static void times() {
        WorkTree x = new WorkTree();
        check.due("the least time there is", x.add(0, 1, 0), 1);
        check.due("a time of block 0's", x.add(0, 0, 0), WorkTree.REFUSED);
        check.due("the greatest time there is", x.add(0, MAX, 0), 2);
        check.due("none is above a median that is the greatest time", x.add(2, MAX, 0), WorkTree.REFUSED);
        check.due("nor does it wrap around", x.add(2, Integer.MIN_VALUE, 0), WorkTree.REFUSED);
        check.due("add(1, MAX, 0)", x.add(1, MAX, 0), 3);
        check.due("below the parent's time, above its median", x.add(3, 2, 0), 4);
        check.looksLike(x, 4, 3, 3, 2);
        check.due("median(4): of 0, 1, 2, MAX", x.median(4), 2);
        check.due("at the median of four", x.add(4, 2, 0), WorkTree.REFUSED);
        check.due("above the median of four", x.add(4, 3, 0), 5);
    }

    private static void works() {
        WorkTree x = new WorkTree();
        int one = check.chain(x, 0, 1);
        check.due("16777216 / 32768", x.look(one, 4), 512);
        workBehind(256, 160);
        workBehind(257, 159);
        workBehind(259, 158);
        workBehind(1365, 30);
        workBehind(2048, 20);
        workBehind(8192, 20, 20);
        // Target 24929, which divides 16777217: one short of a whole number is rounded down too.
        workBehind(672, 27, 229, 63);
        check.due("height 7: seven times 512", chainOf(8).look(7, 4), 7 * 512);
        check.due("chain of 512: 7 of 32768, 8 of 8192, 496 of 2048", chainOf(MOST_BLOCKS).look(511, 4),
            7 * 512 + 8 * 2048 + 496 * 8192);
    }

    /** How much work each block adds behind these spans, in the eight heights that follow. */
    private static void workBehind(int work, int... spans) {
        WorkTree x = new WorkTree();
        int last = periods(x, spans);
        int child = check.chain(x, last, 90_000);
        int grandchild = check.chain(x, child, 90_001);
        String name = "work behind spans " + Arrays.toString(spans);
        check.due(name + ", of a child", x.look(child, 4), x.look(last, 4) + work);
        check.due(name + ", of its child", x.look(grandchild, 4), x.look(last, 4) + 2L * work);
    }

    private static void medianOfSeven() {
        WorkTree x = new WorkTree();
        int[] times = {100, 200, 300, 400, 500, 600, 700, 800};
        int last = check.chain(x, 0, times);
        check.due("of the seven with block 0", x.median(6), 300);
        check.due("of the seven without block 0", x.median(7), 400);
        check.due("of the latest seven", x.median(last), 500);
        farTimeCountsSevenBlocks();
        equalTimesCountEach();
    }

    /** A far time stands above the middle as long as it is among the seven. */
    private static void farTimeCountsSevenBlocks() {
        WorkTree x = new WorkTree();
        int far = check.chain(x, 0, 1, 2, 3, 4, 5, 6, 7, MAX);
        int sixLater = check.chain(x, far, 8, 9, 10, 11, 12, 13);
        check.due("MAX and six more", x.median(sixLater), 11);
        int sevenLater = check.chain(x, sixLater, 14);
        check.due("seven behind MAX", x.median(sevenLater), 11);
        int eightLater = check.chain(x, sevenLater, 12);
        check.due("9 to 14, and 12 again", x.median(eightLater), 12);
    }

    private static void equalTimesCountEach() {
        WorkTree x = new WorkTree();
        int last = check.chain(x, 0, 5, 6, 9, 9, 9, 10);
        check.due("of 0, 5, 6, 9, 9, 9, 10", x.median(last), 9);
        check.due("at it", x.add(last, 9, 0), WorkTree.REFUSED);
        check.due("above it", x.add(last, 10, 0), last + 1);
        check.due("of 5, 6, 9, 9, 9, 10, 10", x.median(last + 1), 9);
    }

    private static void medianOfFewer() {
        WorkTree x = new WorkTree();
        check.chain(x, 0, 100, 200, 300, 400, 500);
        int[] due = {0, 100, 100, 200, 200, 300};
        for (int block = 0; block < due.length; block++) {
            check.due("of " + (block + 1) + ": median(" + block + ")", x.median(block), due[block]);
        }
        WorkTree y = new WorkTree();
        check.chain(y, 0, 50, 70, 60, 65, 61);
        int[] mixed = {0, 50, 50, 60, 60, 61};
        for (int block = 0; block < mixed.length; block++) {
            check.due("in order, of " + (block + 1), y.median(block), mixed[block]);
        }
    }

    private static void dueChangesAtEight() {
        WorkTree x = chainOf(27);
        int[] firstOfPeriod = {32768, 8192, 2048, 2048};
        for (int block = 0; block < 27; block++) {
            check.due("due(" + block + ")", x.due(block), firstOfPeriod[(block + 1) / 8]);
            check.due("look(" + block + ", 3)", x.look(block, 3), firstOfPeriod[block / 8]);
        }
        WorkTree y = chainOf(9);
        check.due("refuse(7)", y.refuse(7), 6);
        check.due("behind a wrong one too", y.due(7), 8192);
        check.due("behind its child", y.due(8), 8192);
        check.due("behind the last of 512", chainOf(MOST_BLOCKS).due(511), 2048);
    }

    private static void dueIsRoundedDown() {
        dueBehind(8601, 21);
        dueBehind(32358, 79);
        dueBehind(32768, 80);
        dueBehind(33177, 81);
        dueBehind(65126, 159);
        // The rounded target is what the next one is reckoned from: 8601 * 81 / 80.
        dueBehind(8708, 21, 81);
        dueBehind(2049, 21, 61, 25);
    }

    private static void dueIsAtLeast() {
        dueBehind(2049, 21, 61, 25);
        dueBehind(2048, 20, 20);
        // 3276 * 50 / 80 is 2047.
        dueBehind(2048, 20, 32, 50);
        dueBehind(2048, 20, 20, 20);
        dueBehind(2048, 20, 20, 79);
        dueBehind(2048, 20, 20, 80);
        dueBehind(2073, 20, 20, 81);
    }

    private static void dueIsAtMost() {
        dueBehind(65534, 23, 181, 246);
        dueBehind(65535, 64, 200);
        // 16384 * 320 / 80 is 65536.
        dueBehind(65535, 40, 320);
        dueBehind(65535, 160);
        dueBehind(65535, 320, 320);
        dueBehind(65535, 160, 80);
        dueBehind(64715, 160, 79);
    }

    private static void dueSpan() {
        WorkTree x = new WorkTree();
        int six = check.chain(x, 0, 1, 2, 3, 4, 5, 6);
        int slow = check.chain(x, six, 120);
        int fast = check.chain(x, six, 40);
        check.due("from block 0 to height 7 of one branch", x.due(slow), 49152);
        check.due("from block 0 to height 7 of the other", x.due(fast), 16384);
        // From height 8 at 1000 to height 15 at 1080: neither height 7 nor height 9 begins the span.
        int[] second = {1000, 1010, 1011, 1012, 1013, 1014, 1015, 1080};
        check.due("from height 8 to height 15 of one branch", x.due(check.chain(x, slow, second)), 49152);
        check.due("from height 8 to height 15 of the other", x.due(check.chain(x, fast, second)), 16384);
    }

    private static void dueSpanIsAtLeast() {
        dueBehind(8192, 7);
        dueBehind(8192, 19);
        dueBehind(8192, 20);
        dueBehind(8601, 21);
        WorkTree x = new WorkTree();
        int seven = periods(x, 80);
        int ahead = check.chain(x, seven, MAX);
        int below = check.chain(x, ahead, 81, 82, 83, 84, 85, 86, 87);
        check.due("span of less than 0", x.due(below), 8192);
        WorkTree y = new WorkTree();
        int same = check.chain(y, periods(y, 80), 100, 81, 82, 83, 84, 85, 86, 100);
        check.due("span of 0", y.due(same), 8192);
    }

    private static void dueSpanIsAtMost() {
        dueBehind(8192 * 319 / 80, 20, 319);
        dueBehind(32768, 20, 320);
        dueBehind(32768, 20, 321);
        dueBehind(32768, 20, 5000);
        dueBehind(8192, 20, 20, 321);
        dueBehind(65535, MAX - 1);
        WorkTree x = new WorkTree();
        int far = check.chain(x, periods(x, 20), 100, 101, 102, 103, 104, 105, 106, MAX);
        check.due("span up to the greatest time", x.due(far), 32768);
    }

    private static void wrongRow(String when, WorkTree x, int... due) {
        for (int block = 0; block < due.length; block++) {
            check.due(when + ": look(" + block + ", 5)", x.look(block, 5), due[block]);
        }
    }

    private static void wrongOnes() {
        WorkTree x = new WorkTree();
        check.chain(x, 0, 10, 20, 30);
        check.chain(x, 1, 21, 31);
        wrongRow("none refused", x, 0, 0, 0, 0, 0, 0);
        x.refuse(3);
        wrongRow("a last one refused, not its parent", x, 0, 0, 0, 1, 0, 0);
        x.refuse(4);
        wrongRow("a middle one refused, with its child", x, 0, 0, 0, 1, 1, 1);
        x.add(5, 40, 0);
        x.add(6, 50, 0);
        x.add(1, 40, 0);
        wrongRow("children that came later", x, 0, 0, 0, 1, 1, 1, 1, 1, 0);
        x.refuse(1);
        wrongRow("all of a branch", x, 0, 1, 1, 1, 1, 1, 1, 1, 1);
        x.add(0, 10, 0);
        wrongRow("another branch", x, 0, 1, 1, 1, 1, 1, 1, 1, 1, 0);
        WorkTree y = chainOf(510);
        check.due("refuse(1) of a long chain", y.refuse(1), 0);
        check.due("its last", y.look(509, 5), 1);
        check.due("a child of that", y.add(509, 510, 0), 510);
    }

    private static void bestIsNotWrong() {
        WorkTree x = new WorkTree();
        check.chain(x, 0, 1, 2, 3);
        check.chain(x, 0, 1, 2);
        check.due("refuse(3)", x.refuse(3), 2);
        check.due("best(): work as of 5, and before it", x.best(), 2);
        check.due("refuse(2)", x.refuse(2), 5);
        check.due("refuse(4), its child with it", x.refuse(4), 1);
        check.due("refuse(1)", x.refuse(1), 0);
        check.due("block 0 if all others are wrong", x.best(), 0);
        check.due("a child of a wrong one", x.add(5, 9, 0), 6);
        check.due("is not the best", x.best(), 0);
        check.due("a child of block 0", x.add(0, 9, MAX), 7);
        check.due("is the best", x.best(), 7);
    }

    /** A branch behind height 6: height 7 at the end of the span, then height 8 of the arrival, which it answers. */
    private static int branch(WorkTree x, int six, int span, int arrival) {
        int seven = x.add(six, span, MAX);
        int eight = x.add(seven, 5000, arrival);
        check.due("height", x.look(eight, 0), 8);
        return eight;
    }

    private static void bestHasMostWork() {
        WorkTree x = new WorkTree();
        int six = check.chain(x, 0, 1, 2, 3, 4, 5, 6);
        int less = branch(x, six, 160, 0);
        check.due("alone", x.best(), less);
        int more = branch(x, six, 159, MAX);
        check.due("work of one", x.look(less, 4), 7 * 512 + 256);
        check.due("one more work", x.look(more, 4), 7 * 512 + 257);
        check.due("one more work, and the greatest arrival", x.best(), more);
        int higher = x.add(less, 5001, 0);
        check.due("twice 256 are more than 257", x.best(), higher);
        int fast = branch(x, six, 20, MAX);
        check.due("2048 are more than twice 256, at less height", x.best(), fast);
        check.due("refuse of it", x.refuse(fast), higher);
    }

    private static void bestOfLeastArrival() {
        WorkTree x = new WorkTree();
        int[] arrivals = {MAX, MAX - 1, 7, 8, 1, 0};
        int[] due = {1, 2, 3, 3, 5, 6};
        for (int i = 0; i < due.length; i++) {
            x.add(0, 5, arrivals[i]);
            check.due("best() with arrival " + arrivals[i], x.best(), due[i]);
        }
        int[] then = {5, 3, 4, 2, 1, 0};
        for (int i = 0; i < then.length; i++) {
            check.due("refuse of the best, time " + i, x.refuse(i == 0 ? 6 : then[i - 1]), then[i]);
        }
        sameWorkOfOtherTargets();
    }

    /** 16777216 / 65331 and 16777216 / 65535 are both 256 when rounded down, so the arrival decides. */
    private static void sameWorkOfOtherTargets() {
        WorkTree x = new WorkTree();
        int last = check.chain(x, 0, 1, 2, 3, 4, 5, 6, 40, 100, 101, 102, 103, 104, 105, 106);
        int easy = x.add(x.add(last, 420, 0), 5000, 8);
        int hard = x.add(x.add(last, 419, 0), 5000, 9);
        check.due("target of one", x.look(easy, 3), 65535);
        check.due("target of the other", x.look(hard, 3), 65331);
        check.due("their works", x.look(easy, 4), x.look(hard, 4));
        check.due("the earlier arrival", x.best(), easy);
        int earliest = x.add((int) x.look(hard, 1), 5000, 7);
        check.due("the earliest arrival", x.best(), earliest);
    }

    private static void bestIsTheFirst() {
        WorkTree x = new WorkTree();
        for (int arrival : new int[] {5, 4, 4, 4, 5}) {
            x.add(0, 9, arrival);
        }
        check.due("first of the three of least arrival", x.best(), 2);
        check.due("then the second", x.refuse(2), 3);
        check.due("then the third", x.refuse(3), 4);
        check.due("then the first of greater arrival", x.refuse(4), 1);
        check.due("then the last", x.refuse(1), 5);
        WorkTree y = new WorkTree();
        y.add(0, 9, MAX);
        y.add(0, 1, MAX);
        check.due("of two of the greatest arrival", y.best(), 1);
    }
}
