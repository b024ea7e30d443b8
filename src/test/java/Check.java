/** Counts and prints the answers that are not as due; shared by the tests. */
final class Check {
    private static final long MOST_MILLIS = 120_000;

    private int wrong = 0;
    private int checked = 0;

    void due(String call, long got, long want) {
        checked++;
        if (got != want) {
            wrong++;
            System.out.println(call + " answered " + got + ", due is " + want);
        }
    }

    void holds(String what, boolean holds) {
        checked++;
        if (!holds) {
            wrong++;
            System.out.println("does not hold: " + what);
        }
    }

    /** Adds a chain of blocks with the given times behind a parent, each of arrival 0; answers the last one. */
    int chain(WorkTree x, int parent, int... times) {
        int last = parent;
        for (int time : times) {
            int block = x.add(last, time, 0);
            due("add(" + last + ", " + time + ", 0)", block, x.blocks() - 1);
            last = block;
        }
        return last;
    }

    /** What look answers of a block, from what 0 on. */
    void looksLike(WorkTree x, int block, long... due) {
        for (int what = 0; what < due.length; what++) {
            due("look(" + block + ", " + what + ")", x.look(block, what), due[what]);
        }
    }

    /**
     * The test of one sentence of the document. The sentence is printed if it does not hold,
     * and a call that throws or does not end is a fault of this sentence alone.
     */
    void sentence(String sentence, Runnable test) {
        int wrongBefore = wrong;
        int checkedBefore = checked;
        Thread thread = new Thread(test);
        thread.setUncaughtExceptionHandler((t, thrown) -> holds("no call throws: " + thrown, false));
        thread.setDaemon(true);
        thread.start();
        waitFor(thread);
        boolean ended = !thread.isAlive();
        holds("every call ends", ended);
        holds("the sentence has checks", checked > checkedBefore + 1);
        if (wrong != wrongBefore) {
            System.out.println("BROKEN: \"" + sentence + "\"");
        }
        if (!ended) {
            end();
        }
    }

    private static void waitFor(Thread thread) {
        try {
            thread.join(MOST_MILLIS);
        } catch (InterruptedException stop) {
            Thread.currentThread().interrupt();
        }
    }

    void end() {
        System.out.println(checked + " checks, " + wrong + " wrong");
        // A test that checked nothing must not pass.
        if (wrong != 0 || checked == 0) {
            System.exit(1);
        }
    }
}
