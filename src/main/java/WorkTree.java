/**
 * A tree of blocks, each with the work of its chain: which branch is the best,
 * where two part, how hard the next block must be.
 */
public final class WorkTree {
    public static final int REFUSED = -1, NONE = -2, FULL = -3;

    private static final int MOST_BLOCKS = 512;
    private static final int MEDIAN_TIMES = 7;

    private static final int FIRST_TARGET = 32768;
    private static final int LEAST_TARGET = 2048;
    private static final int GREATEST_TARGET = 65535;
    private static final int WORK_AT_TARGET_ONE = 16777216;

    private static final int HEIGHTS_PER_TARGET = 8;
    private static final int WANTED_SPAN = 80;
    private static final int LEAST_SPAN = 20;
    private static final int GREATEST_SPAN = 320;

    private final int[] parents = new int[MOST_BLOCKS];
    private final int[] heights = new int[MOST_BLOCKS];
    private final int[] times = new int[MOST_BLOCKS];
    private final int[] arrivals = new int[MOST_BLOCKS];
    private final int[] targets = new int[MOST_BLOCKS];
    private final int[] works = new int[MOST_BLOCKS];
    private final boolean[] wrong = new boolean[MOST_BLOCKS];
    // Kept with the object so that no call has to make a row of its own.
    private final int[] sortedTimes = new int[MEDIAN_TIMES];
    private int count;

    public WorkTree() {
        parents[0] = NONE;
        targets[0] = FIRST_TARGET;
        count = 1;
    }

    public int add(int parent, int time, int arrival) {
        if (!exists(parent) || time <= medianTime(parent) || arrival < 0) {
            return REFUSED;
        }
        if (count >= MOST_BLOCKS) {
            return FULL;
        }
        int block = count;
        int target = targetBehind(parent);
        parents[block] = parent;
        heights[block] = heights[parent] + 1;
        times[block] = time;
        arrivals[block] = arrival;
        targets[block] = target;
        works[block] = works[parent] + WORK_AT_TARGET_ONE / target;
        wrong[block] = wrong[parent];
        count++;
        return block;
    }

    public int refuse(int block) {
        if (!exists(block) || block == 0) {
            return REFUSED;
        }
        wrong[block] = true;
        // A parent always has a lower number than its children, so one pass upwards is enough.
        for (int later = block + 1; later < count; later++) {
            if (wrong[parents[later]]) {
                wrong[later] = true;
            }
        }
        return bestBlock();
    }

    public int best() {
        return bestBlock();
    }

    public int fork(int one, int two) {
        if (!exists(one) || !exists(two)) {
            return NONE;
        }
        int height = Math.min(heights[one], heights[two]);
        int left = ancestorAt(one, height);
        int right = ancestorAt(two, height);
        for (int h = height; h > 0 && left != right; h--) {
            left = parents[left];
            right = parents[right];
        }
        return left;
    }

    public int due(int block) {
        return exists(block) ? targetBehind(block) : NONE;
    }

    public int median(int block) {
        return exists(block) ? medianTime(block) : NONE;
    }

    public int ancestor(int block, int height) {
        if (!exists(block) || height < 0 || height > heights[block]) {
            return NONE;
        }
        return ancestorAt(block, height);
    }

    public long look(int block, int what) {
        if (what < 0 || what > 5) {
            return REFUSED;
        }
        if (!exists(block)) {
            return NONE;
        }
        switch (what) {
            case 0:
                return heights[block];
            case 1:
                return parents[block];
            case 2:
                return times[block];
            case 3:
                return targets[block];
            case 4:
                return works[block];
            default:
                return wrong[block] ? 1 : 0;
        }
    }

    public int blocks() {
        return count;
    }

    private boolean exists(int block) {
        return block >= 0 && block < count;
    }

    /** The height is at least 0 and at most the block's own. */
    private int ancestorAt(int block, int height) {
        int at = block;
        for (int h = heights[block]; h > height; h--) {
            at = parents[at];
        }
        return at;
    }

    private int medianTime(int block) {
        int n = Math.min(heights[block] + 1, MEDIAN_TIMES);
        int at = block;
        for (int filled = 0; filled < n; filled++) {
            insertTime(times[at], filled);
            at = parents[at];
        }
        return sortedTimes[n / 2];
    }

    private void insertTime(int time, int filled) {
        int place = filled;
        for (; place > 0 && sortedTimes[place - 1] > time; place--) {
            sortedTimes[place] = sortedTimes[place - 1];
        }
        sortedTimes[place] = time;
    }

    private int targetBehind(int block) {
        int childHeight = heights[block] + 1;
        if (childHeight % HEIGHTS_PER_TARGET != 0) {
            return targets[block];
        }
        int start = ancestorAt(block, childHeight - HEIGHTS_PER_TARGET);
        // No time is below 0, so the difference cannot wrap around.
        int span = within(times[block] - times[start], LEAST_SPAN, GREATEST_SPAN);
        return within(targets[block] * span / WANTED_SPAN, LEAST_TARGET, GREATEST_TARGET);
    }

    private static int within(int value, int least, int greatest) {
        return Math.max(least, Math.min(greatest, value));
    }

    /** Block 0 is never wrong, so there always is one. */
    private int bestBlock() {
        int found = 0;
        for (int block = 1; block < count; block++) {
            if (!wrong[block] && isBetter(block, found)) {
                found = block;
            }
        }
        return found;
    }

    private boolean isBetter(int block, int than) {
        if (works[block] != works[than]) {
            return works[block] > works[than];
        }
        return arrivals[block] < arrivals[than];
    }
}
