/** Counts answers that are not as due, for one test class. */
final class Check {
    private int asked = 0;
    private int wrong = 0;
    private int askedInCase = 1;
    private String prefix = "";

    /** A new case: its name stands ahead of what is told of it. One that asks nothing is wrong. */
    void begin(String name) {
        endCase();
        prefix = name + ": ";
        askedInCase = 0;
    }

    void due(String call, long got, long want) {
        count();
        if (got != want) {
            tell(call + " answered " + got + ", due is " + want);
        }
    }

    void dueText(String call, String got, String want) {
        count();
        if (!got.equals(want)) {
            tell(call + " answered " + got + ", due is " + want);
        }
    }

    void end() {
        endCase();
        System.out.println(asked + " answers, " + wrong + " not as due");
        if (wrong != 0 || asked == 0) {
            System.exit(1);
        }
    }

    private void count() {
        asked++;
        askedInCase++;
    }

    private void endCase() {
        if (askedInCase == 0) {
            tell("asks nothing");
        }
    }

    private void tell(String what) {
        wrong++;
        System.out.println(prefix + what);
    }
}
