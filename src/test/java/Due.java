import java.util.Arrays;

/** Compares answers with those that are due, prints the wrong ones, and ends the program with 1 if there was one. */
final class Due {
    private int wrong;

    void is(String call, int got, int want) {
        if (got != want) {
            tell(call, String.valueOf(got), String.valueOf(want));
        }
    }

    void is(String call, boolean got, boolean want) {
        if (got != want) {
            tell(call, String.valueOf(got), String.valueOf(want));
        }
    }

    /** The log of the world at work, whole (for logs of which every note is kept). */
    void log(String after, SuiteLoader loader, int... want) {
        int[] got = new int[Math.max(0, loader.count(2))];
        for (int i = 0; i < got.length; i++) {
            got[i] = loader.note(i);
        }
        if (!Arrays.equals(got, want)) {
            tell("the log after " + after, Arrays.toString(got), Arrays.toString(want));
        }
        is("note(" + got.length + ") after " + after, loader.note(got.length), SuiteLoader.REFUSED);
    }

    void end() {
        if (wrong != 0) {
            System.out.println(wrong + " answers are not as due");
            System.exit(1);
        }
    }

    private void tell(String call, String got, String want) {
        wrong++;
        System.out.println(call + " answered " + got + ", due is " + want);
    }
}
