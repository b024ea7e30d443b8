import java.util.ArrayList;
import java.util.List;

/**
 * Every argument is an int, so the least and the greatest int, and all that wraps around beside
 * them, are arguments too: in each of some states, every call with every such argument answers
 * as SlowTree does. Each call is made on an object of its own, so that no call hides another.
 */
public final class AnyArgumentsTest {
    private static final int MIN = Integer.MIN_VALUE;
    private static final int MAX = Integer.MAX_VALUE;
    private static final int[] ANY = {
        MIN, MIN + 1, MIN + 2, MIN + 512, -65536, -513, -512, -511, -8, -3, -2, -1, 0, 1, 2, 3, 5, 6, 7, 8,
        510, 511, 512, 513, 65535, 65536, MAX - 511, MAX - 1, MAX
    };
    /** Behind more steps than these an object has not enough of its 512 calls left to be asked for all. */
    private static final int MOST_STEPS_TO_ASK = 500;
    private static final Check check = new Check();

    private final String state;
    /** The calls that lead to the state: three numbers are an add, one is a refuse. */
    private final List<int[]> steps;

    private AnyArgumentsTest(String state, List<int[]> steps) {
        this.state = state;
        this.steps = steps;
    }

    public static void main(String[] args) {
        for (AnyArgumentsTest test : states()) {
            String rule = "No call may ever throw or fail to end, for any arguments in any state (" + test.state + ")";
            check.sentence(rule, test::anyArguments);
        }
        check.sentence("No call may ever throw or fail to end, for any arguments in any state (behind 512 calls)",
            AnyArgumentsTest::beyondTheCalls);
        check.end();
    }

    private static List<AnyArgumentsTest> states() {
        return List.of(
            new AnyArgumentsTest("new", List.of()),
            new AnyArgumentsTest("two branches", List.of(add(0, 10, 5), add(1, 20, 5), add(0, 10, 3), add(3, 20, 3))),
            new AnyArgumentsTest("the greatest times", List.of(add(0, 1, MAX), add(1, MAX, MAX), add(0, MAX, 0))),
            new AnyArgumentsTest("all others wrong", List.of(add(0, 1, 0), add(1, 2, 0), refuse(1), add(2, 3, 0))),
            new AnyArgumentsTest("height 7, a target to change", chain(7)),
            new AnyArgumentsTest("height 15, a span below 0", farAhead()),
            new AnyArgumentsTest("one below full", chain(510)),
            new AnyArgumentsTest("full, as a chain", chain(511)),
            new AnyArgumentsTest("full, as a star", star(511)));
    }

    private static int[] add(int parent, int time, int arrival) {
        return new int[] {parent, time, arrival};
    }

    private static int[] refuse(int block) {
        return new int[] {block};
    }

    private static List<int[]> chain(int adds) {
        List<int[]> steps = new ArrayList<>();
        for (int block = 1; block <= adds; block++) {
            steps.add(add(block - 1, block, 0));
        }
        return steps;
    }

    private static List<int[]> farAhead() {
        List<int[]> steps = chain(7);
        steps.add(add(7, MAX, 0));
        for (int block = 9; block <= 15; block++) {
            steps.add(add(block - 1, block, 0));
        }
        return steps;
    }

    private static List<int[]> star(int adds) {
        List<int[]> steps = new ArrayList<>();
        for (int block = 1; block <= adds; block++) {
            steps.add(add(0, block, adds - block));
        }
        return steps;
    }

    private WorkTree tree() {
        WorkTree x = new WorkTree();
        for (int[] step : steps) {
            if (step.length == 3) {
                x.add(step[0], step[1], step[2]);
            } else {
                x.refuse(step[0]);
            }
        }
        return x;
    }

    private SlowTree slow() {
        SlowTree x = new SlowTree();
        for (int[] step : steps) {
            if (step.length == 3) {
                x.add(step[0], step[1], step[2]);
            } else {
                x.refuse(step[0]);
            }
        }
        return x;
    }

    private void anyArguments() {
        SlowTree unchanged = slow();
        due("blocks()", tree().blocks(), unchanged.blocks());
        due("best()", tree().best(), unchanged.best());
        for (int one : ANY) {
            due("refuse(" + one + ")", tree().refuse(one), slow().refuse(one));
            due("due(" + one + ")", tree().due(one), unchanged.due(one));
            due("median(" + one + ")", tree().median(one), unchanged.median(one));
            for (int two : ANY) {
                String both = "(" + one + ", " + two + ")";
                due("fork" + both, tree().fork(one, two), unchanged.fork(one, two));
                due("ancestor" + both, tree().ancestor(one, two), unchanged.ancestor(one, two));
                due("look" + both, tree().look(one, two), unchanged.look(one, two));
            }
            anyAdds(one);
        }
    }

    private void anyAdds(int parent) {
        SlowTree slow = slow();
        for (int time : ANY) {
            for (int arrival : ANY) {
                WorkTree tree = tree();
                int answer = slow.add(parent, time, arrival);
                due("add(" + parent + ", " + time + ", " + arrival + ")", tree.add(parent, time, arrival), answer);
                if (answer >= 0) {
                    asAdded(tree, slow, answer);
                    slow = slow();
                }
            }
        }
    }

    /** A block that came with such arguments can be asked for, as long as the object has calls left. */
    private void asAdded(WorkTree tree, SlowTree slow, int block) {
        if (steps.size() > MOST_STEPS_TO_ASK) {
            return;
        }
        for (int what = 0; what <= 5; what++) {
            due("look(" + block + ", " + what + ")", tree.look(block, what), slow.look(block, what));
        }
        due("due(" + block + ")", tree.due(block), slow.due(block));
        due("median(" + block + ")", tree.median(block), slow.median(block));
        due("best()", tree.best(), slow.best());
        due("blocks()", tree.blocks(), slow.blocks());
    }

    /** The answers are free there; that they come is all that is asked. */
    private static void beyondTheCalls() {
        for (AnyArgumentsTest test : states()) {
            WorkTree x = test.tree();
            for (int one : ANY) {
                for (int two : ANY) {
                    for (int three : ANY) {
                        x.add(one, two, three);
                    }
                    x.fork(one, two);
                    x.ancestor(one, two);
                    x.look(one, two);
                }
                x.due(one);
                x.median(one);
                x.refuse(one);
                x.best();
                x.blocks();
            }
            check.holds("all calls came back", true);
        }
    }

    private void due(String call, long got, long want) {
        check.due(state + ": " + call, got, want);
    }
}
