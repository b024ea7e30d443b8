import java.util.ArrayList;
import java.util.List;

/** The document's terms said once more, as slowly and plainly as can be; the model that ModelTest compares with. */
final class SlowTree {
    private record Block(int number, Block parent, int height, int time, int arrival, long target, long work) {
        List<Block> line() {
            List<Block> line = new ArrayList<>();
            for (Block at = this; at != null; at = at.parent) {
                line.add(at);
            }
            return line;
        }
    }

    private final List<Block> all = new ArrayList<>();
    private final List<Block> refused = new ArrayList<>();

    SlowTree() {
        all.add(new Block(0, null, 0, 0, 0, 32768, 0));
    }

    private Block find(int number) {
        for (Block block : all) {
            if (block.number == number) {
                return block;
            }
        }
        return null;
    }

    private boolean isWrong(Block block) {
        for (Block at : block.line()) {
            for (Block other : refused) {
                if (at == other) {
                    return true;
                }
            }
        }
        return false;
    }

    private static int medianOf(Block block) {
        return middle(block.line().stream().limit(7).mapToInt(Block::time).sorted().toArray());
    }

    private static int middle(int[] times) {
        return times[times.length / 2];
    }

    private static long dueBehind(Block block) {
        int h = block.height + 1;
        if (h % 8 != 0) {
            return block.target;
        }
        long s = (long) block.time - block.line().get(7).time;
        s = s < 20 ? 20 : s > 320 ? 320 : s;
        long due = block.target * s / 80;
        return due < 2048 ? 2048 : due > 65535 ? 65535 : due;
    }

    int add(int parent, int time, int arrival) {
        Block behind = find(parent);
        if (behind == null || time <= medianOf(behind) || arrival < 0) {
            return -1;
        }
        if (all.size() == 512) {
            return -3;
        }
        long target = dueBehind(behind);
        all.add(new Block(all.size(), behind, behind.height + 1, time, arrival, target, behind.work + 16777216 / target));
        return all.size() - 1;
    }

    int refuse(int block) {
        Block found = find(block);
        if (found == null || block == 0) {
            return -1;
        }
        refused.add(found);
        return best();
    }

    int best() {
        List<Block> right = new ArrayList<>();
        for (Block block : all) {
            if (!isWrong(block)) {
                right.add(block);
            }
        }
        right.sort((a, b) -> a.work != b.work ? Long.compare(b.work, a.work)
            : a.arrival != b.arrival ? Integer.compare(a.arrival, b.arrival)
            : Integer.compare(a.number, b.number));
        return right.get(0).number;
    }

    int fork(int one, int two) {
        Block first = find(one);
        Block second = find(two);
        if (first == null || second == null) {
            return -2;
        }
        List<Block> line = second.line();
        for (Block at : first.line()) {
            for (Block other : line) {
                if (at == other) {
                    return at.number;
                }
            }
        }
        return -2;
    }

    int due(int block) {
        Block found = find(block);
        return found == null ? -2 : (int) dueBehind(found);
    }

    int median(int block) {
        Block found = find(block);
        return found == null ? -2 : medianOf(found);
    }

    int ancestor(int block, int height) {
        Block found = find(block);
        if (found != null) {
            for (Block at : found.line()) {
                if (at.height == height) {
                    return at.number;
                }
            }
        }
        return -2;
    }

    long look(int block, int what) {
        if (what < 0 || what > 5) {
            return -1;
        }
        Block found = find(block);
        if (found == null) {
            return -2;
        }
        long[] row = {found.height, found.parent == null ? -2 : found.parent.number, found.time,
            found.target, found.work, isWrong(found) ? 1 : 0};
        return row[what];
    }

    int blocks() {
        return all.size();
    }
}
