/** Promise 5 (act): each act in a world of its own, then acts that hang on what came before. */
public final class ActsTest {
    private static final Due due = new Due();

    public static void main(String[] args) {
        eachActInANewWorld();
        oddAndEvenArguments();
        valuesGrowAndStay();
        valuesMayLookLikeOutcomes();
        failuresStay();
        circleDependsOnWhoIsAskedFirst();
        threadsGrowMade();
        refusesActsThatAreNotThere();
        due.end();
    }

    private static void eachActInANewWorld() {
        tells(0, 5, 15, 10, 1);
        tells(1, 5, 10, 10, 1);
        tells(2, 5, 5, 10, 1, 5, 2);
        tells(3, 5, 70);
        tells(4, 5, 6, 10, 1, 5, 2, 6, 3);
        tells(5, 6, 5);
        tells(6, 5, 2);
        tells(7, 5, 4, 4);
        tells(8, 5, 4, 4);
        tells(9, 5, 19, 15, 4);
        tells(10, 5, 1, 15, 12);
        tells(11, 5, 11, 11);
        tells(12, 5, SuiteLoader.FAILED, 7);
        tells(13, 5, 71);
        tells(14, 5, SuiteLoader.FAILED, 7);
        tells(15, 5, SuiteLoader.FAILED, 7);
        tells(16, 5, 70, 40, 30);
        tells(17, 5, 70, 30, 40);
        tells(18, 5, 20, 13, 10, 1, 20, 14);
        tells(19, 5, 35, 16, 16, 17);
        tells(20, 5, 1, 16, 16, 17);
        tells(21, 5, 1005, 18);
        tells(22, 5, 22, 19);
        tells(23, 5, 20);
        tells(24, 5, 12, 10, 1, 5, 2);
        tells(25, 5, 18, 30, 40);
        tells(26, 5, 1, 10, 1, 5, 2, 6, 3, 20, 21, 22, 23);
        tells(27, 5, 12, 10, 1, 5, 2);
        tells(28, 5, 5, 5);
        tells(29, 5, SuiteLoader.CASE, 16, 16, 17);
    }

    private static void oddAndEvenArguments() {
        int[] even = {0, 2, -2, -4, Integer.MIN_VALUE};
        for (int a : even) {
            tells(19, a, 20, 16, 16, 17);
            tells(20, a, 0, 16, 16, 17);
            tells(22, a, 21, 19);
            tells(25, a, 18);
        }
        int[] odd = {1, 3, -1, -3, Integer.MAX_VALUE};
        for (int a : odd) {
            tells(19, a, 35, 16, 16, 17);
            tells(20, a, 1, 16, 16, 17);
            tells(22, a, 22, 19);
            tells(25, a, 18, 30, 40);
        }
    }

    private static void tells(int number, int argument, int want, int... notes) {
        SuiteLoader x = begun();
        String call = "act(" + number + ", " + argument + ")";
        due.is(call, x.act(number, argument), want);
        due.log(call, x, notes);
    }

    private static void valuesGrowAndStay() {
        SuiteLoader x = begun();
        due.is("act(0, -3)", x.act(0, -3), 7);
        due.is("act(0, 0)", x.act(0, 0), 7);
        due.is("act(1, 9)", x.act(1, 9), 7);
        due.is("act(24, 9)", x.act(24, 9), 9);
        due.is("act(2, 50)", x.act(2, 50), 50);
        due.is("act(24, 0)", x.act(24, 0), 50);
        due.is("act(27, 0)", x.act(27, 0), 50);
        due.is("act(0, MAX)", x.act(0, Integer.MAX_VALUE), Integer.MIN_VALUE + 6);
        due.log("values", x, 10, 1, 5, 2);
        due.is("act(26, 0)", x.act(26, 0), 1);
        due.is("act(26, 1)", x.act(26, 1), 1);
        due.log("two Leaves", x, 10, 1, 5, 2, 6, 3, 20, 21, 22, 23, 20, 21, 22, 23);
    }

    private static void valuesMayLookLikeOutcomes() {
        SuiteLoader x = begun();
        due.is("act(0, -111)", x.act(0, -111), SuiteLoader.FAILED);
        due.is("act(1, 0)", x.act(1, 0), SuiteLoader.FAILED);
        due.is("act(24, 0)", x.act(24, 0), -99);
        due.is("act(2, GONE)", x.act(2, SuiteLoader.GONE), SuiteLoader.GONE);
        due.is("act(24, 0) after it", x.act(24, 0), SuiteLoader.GONE);
        due.is("act(2, NO_WORLD)", x.act(2, SuiteLoader.NO_WORLD), SuiteLoader.NO_WORLD);
        due.is("act(27, 0) after it", x.act(27, 0), SuiteLoader.NO_WORLD);
        due.is("act(0, 100)", x.act(0, 100), SuiteLoader.REFUSED);
        due.is("act(1, 0) after it", x.act(1, 0), SuiteLoader.REFUSED);
    }

    private static void failuresStay() {
        SuiteLoader x = begun();
        due.is("act(15, 0)", x.act(15, 0), SuiteLoader.FAILED);
        due.is("act(12, 0)", x.act(12, 0), SuiteLoader.GONE);
        due.is("act(14, 0)", x.act(14, 0), SuiteLoader.GONE);
        due.is("act(15, 0) again", x.act(15, 0), SuiteLoader.GONE);
        due.is("act(13, 0)", x.act(13, 0), 71);
        due.is("act(5, 0)", x.act(5, 0), 5);
        due.log("failures", x, 7);
        x.begin(false);
        due.is("act(12, 0) first", x.act(12, 0), SuiteLoader.FAILED);
        due.is("act(14, 0) then", x.act(14, 0), SuiteLoader.GONE);
        due.is("act(29, 0)", x.act(29, 0), SuiteLoader.CASE);
        due.is("act(29, 0) again", x.act(29, 0), SuiteLoader.CASE);
        due.is("act(19, 0) after it", x.act(19, 0), 20);
        due.log("failures and grades", x, 7, 16, 16, 17);
    }

    private static void circleDependsOnWhoIsAskedFirst() {
        SuiteLoader x = begun();
        due.is("act(16, 0) first", x.act(16, 0), 70);
        due.is("act(17, 0) then", x.act(17, 0), 40);
        x.begin(false);
        due.is("act(17, 0) first", x.act(17, 0), 70);
        due.is("act(16, 0) then", x.act(16, 0), 30);
        x.begin(false);
        due.is("act(25, 1) first", x.act(25, 1), 18);
        due.is("act(16, 0) after act(25, 1)", x.act(16, 0), 30);
        x.begin(false);
        due.is("act(25, 2) first", x.act(25, 2), 18);
        due.is("act(16, 0) after act(25, 2)", x.act(16, 0), 70);
        due.is("act(25, 1) at last", x.act(25, 1), 18);
        due.is("act(17, 0) at last", x.act(17, 0), 40);
    }

    private static void threadsGrowMade() {
        SuiteLoader x = begun();
        due.is("act(22, 2)", x.act(22, 2), 21);
        due.is("act(22, -1)", x.act(22, -1), 24);
        due.is("act(22, 0)", x.act(22, 0), 26);
        due.log("threads", x, 19);
        x.begin(false);
        x.find(16, true);
        due.is("act(22, 1) when Slow is there", x.act(22, 1), 22);
        due.log("threads later", x, 19);
    }

    private static void refusesActsThatAreNotThere() {
        SuiteLoader x = new SuiteLoader();
        int[] notThere = {-1, 30, 31, Integer.MIN_VALUE, Integer.MAX_VALUE};
        for (int number : notThere) {
            due.is("act(" + number + ", 1) without a world", x.act(number, 1), SuiteLoader.REFUSED);
        }
        x.begin(true);
        for (int number : notThere) {
            due.is("act(" + number + ", 1)", x.act(number, 1), SuiteLoader.REFUSED);
        }
        due.log("refusals", x);
    }

    private static SuiteLoader begun() {
        SuiteLoader x = new SuiteLoader();
        x.begin(true);
        return x;
    }
}
