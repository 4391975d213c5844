/** Counts answers that are not as due; a test ends with exit code 1 if there was one. */
final class Check {
    private int wrong = 0;
    private int all = 0;

    void due(String call, long want, long got) {
        all++;
        if (got != want) {
            wrong++;
            System.out.println(call + " answered " + got + ", due is " + want);
        }
    }

    void holds(String what, boolean isSo) {
        all++;
        if (!isSo) {
            wrong++;
            System.out.println("not so: " + what);
        }
    }

    int wrongOnes() {
        return wrong;
    }

    void end() {
        System.out.println(all - wrong + " of " + all + " answers are as due");
        if (wrong != 0 || all == 0) {
            System.exit(1);
        }
    }
}
