/** Promise 6 (find), and with it what initialising each class writes. */
public final class FindTest {
    private static final Due due = new Due();

    public static void main(String[] args) {
        lookingUpInitialisesNothing();
        eachClassWritesItsNotesOnce();
        badAndWorseFail();
        worseAfterBadIsGone();
        badAfterWorseIsGone();
        middleReadsBaseAsItIsNow();
        refusesClassesThatAreNotThere();
        due.end();
    }

    private static void lookingUpInitialisesNothing() {
        SuiteLoader x = begun();
        for (int k = 0; k < 17; k++) {
            due.is("find(" + k + ", false)", x.find(k, false), SuiteLoader.DONE);
        }
        due.log("looking all up", x);
        x.find(9, true);
        due.is("find(8, false) of a failed class", x.find(8, false), SuiteLoader.DONE);
        due.is("find(9, false) of a failed class", x.find(9, false), SuiteLoader.DONE);
    }

    private static void eachClassWritesItsNotesOnce() {
        writes(0, 10, 1);
        writes(1, 10, 1, 5, 2);
        writes(2, 10, 1, 5, 2, 6, 3);
        writes(3, 4);
        writes(4, 15);
        writes(5, 5);
        writes(6, 11);
        writes(7, 15, 12);
        writes(10, 40, 30);
        writes(11, 30, 40);
        writes(12, 13);
        writes(13, 10, 1, 20, 14);
        writes(14, 16, 16, 17);
        writes(15, 18);
        writes(16, 19);
    }

    private static void writes(int k, int... notes) {
        SuiteLoader x = begun();
        due.is("find(" + k + ", true)", x.find(k, true), SuiteLoader.DONE);
        due.log("find(" + k + ", true)", x, notes);
        due.is("find(" + k + ", true) again", x.find(k, true), SuiteLoader.DONE);
        due.log("find(" + k + ", true) again", x, notes);
    }

    private static void badAndWorseFail() {
        SuiteLoader x = begun();
        due.is("find(8, true)", x.find(8, true), SuiteLoader.FAILED);
        due.is("find(8, true) again", x.find(8, true), SuiteLoader.GONE);
        due.is("find(8, true) once more", x.find(8, true), SuiteLoader.GONE);
        due.log("Bad thrice", x, 7);
    }

    private static void worseAfterBadIsGone() {
        SuiteLoader x = begun();
        x.find(8, true);
        due.is("find(9, true) after Bad", x.find(9, true), SuiteLoader.GONE);
        due.is("find(9, true) after Bad, again", x.find(9, true), SuiteLoader.GONE);
        due.log("Bad, then Worse", x, 7);
    }

    private static void badAfterWorseIsGone() {
        SuiteLoader x = begun();
        due.is("find(9, true)", x.find(9, true), SuiteLoader.FAILED);
        due.is("find(9, true) again", x.find(9, true), SuiteLoader.GONE);
        due.is("find(8, true) after Worse", x.find(8, true), SuiteLoader.GONE);
        due.log("Worse, then Bad", x, 7);
    }

    private static void middleReadsBaseAsItIsNow() {
        SuiteLoader x = begun();
        x.act(0, 2147483637);
        due.is("find(1, true)", x.find(1, true), SuiteLoader.DONE);
        due.is("act(24, 0) past the largest int", x.act(24, 0), -2147483647);
        x.act(0, 1);
        due.is("act(24, 0) stays", x.act(24, 0), -2147483647);
        x.begin(false);
        x.find(5, true);
        x.find(0, true);
        x.find(2, true);
        due.log("Defaulted and Base before Leaf", x, 5, 10, 1, 2, 6, 3);
    }

    private static void refusesClassesThatAreNotThere() {
        SuiteLoader x = new SuiteLoader();
        int[] notThere = {-1, 17, 18, Integer.MIN_VALUE, Integer.MAX_VALUE};
        for (int k : notThere) {
            due.is("find(" + k + ", true) without a world", x.find(k, true), SuiteLoader.REFUSED);
        }
        x.begin(false);
        for (int k : notThere) {
            due.is("find(" + k + ", true)", x.find(k, true), SuiteLoader.REFUSED);
            due.is("find(" + k + ", false)", x.find(k, false), SuiteLoader.REFUSED);
        }
        due.log("refusals", x);
    }

    private static SuiteLoader begun() {
        SuiteLoader x = new SuiteLoader();
        x.begin(false);
        return x;
    }
}
