/** Counts and prints the answers that are not as due; shared by the tests. */
final class Check {
    private int wrong = 0;
    private int checked = 0;

    void due(String call, long got, long want) {
        checked++;
        if (got != want) {
            wrong++;
            System.out.println(call + " answered " + got + ", due is " + want);
        }
    }

    void holds(String what, boolean holds) {
        checked++;
        if (!holds) {
            wrong++;
            System.out.println("does not hold: " + what);
        }
    }

    void end() {
        System.out.println(checked + " checks, " + wrong + " wrong");
        // A test that checked nothing must not pass.
        if (wrong != 0 || checked == 0) {
            System.exit(1);
        }
    }
}
