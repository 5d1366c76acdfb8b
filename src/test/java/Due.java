/** Counts the answers of one test that are not as due, and tells them. */
final class Due {
    private final String test;
    private int asked = 0;
    private int wrong = 0;

    Due(String test) {
        this.test = test;
    }

    void is(String call, long got, long want) {
        asked++;
        if (got != want) {
            wrong++;
            System.out.println(test + ": " + call + " answered " + got + ", due is " + want);
        }
    }

    /** A test that asks nothing can't fail, so it does not count as one that holds. */
    boolean holds() {
        return asked > 0 && wrong == 0;
    }

    int asked() {
        return asked;
    }

    void end() {
        System.out.println(test + ": " + asked + " answers, " + wrong + " not as due");
        if (!holds()) {
            System.exit(1);
        }
    }
}
