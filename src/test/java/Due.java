/** Counts and prints the answers that are not the ones that are due. */
final class Due {
    private final String test;
    private int wrong;

    Due(String test) {
        this.test = test;
    }

    void is(String call, long got, long want) {
        if (got != want) {
            wrong++;
            System.out.println(test + ": " + call + " answered " + got + ", due is " + want);
        }
    }

    void holds(String what, boolean held) {
        if (!held) {
            wrong++;
            System.out.println(test + ": not so: " + what);
        }
    }

    boolean anyWrong() {
        return wrong != 0;
    }

    void end() {
        System.out.println(test + ": " + (wrong == 0 ? "all answers are as due" : wrong + " answers are not as due"));
        if (wrong != 0) {
            System.exit(1);
        }
    }
}
