/** Counts and prints the answers of one test that are not as due. */
final class Due {
    private final String test;
    private int asked = 0;
    private int wrong = 0;

    Due(String test) {
        this.test = test;
    }

    void is(String call, long want, long got) {
        asked++;
        if (got != want) {
            wrong++;
            System.out.println(test + ": " + call + " answered " + got + ", due is " + want);
        }
    }

    void isTrue(String what, boolean holds) {
        is(what, 1, holds ? 1 : 0);
    }

    /** The last call of a test: the machine ends with exit code 1 if an answer was wrong. */
    void end() {
        if (wrong > 0) {
            System.out.println(test + ": " + wrong + " of " + asked + " answers are not as due");
            System.exit(1);
        }
        System.out.println(test + ": all " + asked + " answers are as due");
    }
}
