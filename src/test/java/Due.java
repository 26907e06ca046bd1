/** Compares answers with those that are due and prints the wrong ones. */
final class Due {
    private int compared;
    private int wrong;

    void is(String call, int got, int want) {
        compare(call, String.valueOf(got), String.valueOf(want));
    }

    void is(String call, boolean got, boolean want) {
        compare(call, String.valueOf(got), String.valueOf(want));
    }

    void isWrong(String what) {
        wrong++;
        System.out.println(what);
    }

    /** A test that compared nothing has shown nothing. */
    boolean holds() {
        return wrong == 0 && compared > 0;
    }

    /** Ends the program with 1 if an answer was wrong. */
    void end() {
        if (!holds()) {
            System.out.println(wrong + " of " + compared + " answers are not as due");
            System.exit(1);
        }
    }

    private void compare(String call, String got, String want) {
        compared++;
        if (!got.equals(want)) {
            isWrong(call + " answered " + got + ", due is " + want);
        }
    }
}
