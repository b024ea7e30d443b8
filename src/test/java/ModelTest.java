/** Long mixed runs of calls, each answer compared with that of SlowTree. */
public final class ModelTest {
    private static final int RUNS = 400;
    private static final int CALLS = 512;
    private static final int[] ODD = {-1, -2, -3, 0, 1, 511, 512, 513, Integer.MIN_VALUE, Integer.MAX_VALUE};
    private static final int[] STEPS = {2, 10, 30, 200};
    private static final Check check = new Check();

    private final WorkTree tree = new WorkTree();
    private final SlowTree slow = new SlowTree();
    private final int run;
    private long seed;

    private ModelTest(int run) {
        this.run = run;
        this.seed = 7919L * run + 1;
    }

    public static void main(String[] args) {
        for (int run = 0; run < RUNS; run++) {
            new ModelTest(run).play();
        }
        check.end();
    }

    /** The same numbers in every run of the test, so that a fault can be found again. */
    private int pick(int below) {
        seed = seed * 6364136223846793005L + 1442695040888963407L;
        return (int) ((seed >>> 33) % below);
    }

    private void play() {
        // Some runs are nearly all adds, so that the tree gets full and high.
        int addsOfHundred = run % 4 == 0 ? 99 : 60;
        for (int call = 0; call < CALLS; call++) {
            if (pick(100) < addsOfHundred) {
                add();
            } else {
                ask();
            }
        }
        // Beyond the promised calls nothing may throw.
        for (int odd : ODD) {
            tree.add(odd, Integer.MAX_VALUE, 0);
            tree.refuse(odd);
        }
    }

    private int block() {
        int kind = pick(20);
        if (kind == 0) {
            return ODD[pick(ODD.length)];
        }
        int blocks = slow.blocks();
        return kind < 14 ? Math.max(0, blocks - 1 - pick(1 + run % 5)) : pick(blocks + 1);
    }

    private void add() {
        int parent = block();
        int median = Math.max(0, slow.median(parent));
        int step = STEPS[run / 4 % STEPS.length];
        int time = pick(30) == 0 ? ODD[pick(ODD.length)] : median + pick(step) + (pick(25) == 0 ? 0 : 1);
        int arrival = pick(30) == 0 ? ODD[pick(ODD.length)] : pick(4);
        due("add(" + parent + ", " + time + ", " + arrival + ")",
            tree.add(parent, time, arrival), slow.add(parent, time, arrival));
    }

    private void ask() {
        int one = block();
        int two = block();
        int height = pick(10) == 0 ? ODD[pick(ODD.length)] : pick(2 + (int) Math.max(0, slow.look(one, 0)));
        int what = pick(8) - 1;
        switch (pick(16)) {
            case 0 -> due("refuse(" + one + ")", tree.refuse(one), slow.refuse(one));
            case 1, 2 -> due("best()", tree.best(), slow.best());
            case 3, 4 -> due("fork(" + one + ", " + two + ")", tree.fork(one, two), slow.fork(one, two));
            case 5, 6 -> due("due(" + one + ")", tree.due(one), slow.due(one));
            case 7, 8 -> due("median(" + one + ")", tree.median(one), slow.median(one));
            case 9, 10 -> due("ancestor(" + one + ", " + height + ")",
                tree.ancestor(one, height), slow.ancestor(one, height));
            case 11 -> due("blocks()", tree.blocks(), slow.blocks());
            default -> due("look(" + one + ", " + what + ")", tree.look(one, what), slow.look(one, what));
        }
    }

    private void due(String call, long got, long want) {
        check.due("run " + run + ": " + call, got, want);
    }
}
