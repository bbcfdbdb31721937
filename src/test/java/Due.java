/** Compares answers with those that are due, prints the wrong ones, and ends the test. */
final class Due {
    /** One broken promise can make thousands of answers wrong: the first ones tell enough. */
    private static final int MOST_TOLD = 200;

    private final String test;
    private String part = "";
    private int asked = 0;
    private int wrong = 0;

    Due(String test) {
        this.test = test;
    }

    /** Names the part of the test that the next answers belong to. */
    void part(String name) {
        part = name;
    }

    void is(String call, long got, long want) {
        asked++;
        if (got != want) {
            tell(call + " answered " + got + ", due is " + want);
        }
    }

    void holds(String what, boolean is) {
        asked++;
        if (!is) {
            tell(what + " does not hold");
        }
    }

    private void tell(String fault) {
        wrong++;
        if (wrong <= MOST_TOLD) {
            System.out.println(test + ", " + part + ": " + fault);
        }
    }

    boolean isWrong() {
        return wrong != 0;
    }

    void end() {
        System.out.println(test + ": " + asked + " answers, " + wrong + " wrong");
        if (wrong != 0) {
            System.exit(1);
        }
    }
}
