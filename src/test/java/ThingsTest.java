/** Promises 7 (keep), 8 (isOf) and 9 (alike). */
public final class ThingsTest {
    private static final Due due = new Due();
    private static final int SORTS = 6;

    public static void main(String[] args) {
        keepWritesWhatItMakes();
        keepRefusesAndLeavesTheSlot();
        isOfKnowsWhatIsAbove();
        isOfKnowsTheWorldAtWork();
        isOfIsFalseOutOfRange();
        alikeNeedsClassAndWorld();
        due.end();
    }

    private static void keepWritesWhatItMakes() {
        writes(0, new int[] {10, 1, 20}, new int[] {20});
        writes(1, new int[] {10, 1, 5, 2, 20, 21, 22, 23}, new int[] {20, 21, 22, 23});
        writes(2, new int[] {10, 1, 5, 2, 6, 3, 20, 21, 22, 23}, new int[] {20, 21, 22, 23});
        writes(3, new int[] {11}, new int[0]);
        writes(4, new int[] {15, 12}, new int[0]);
        writes(5, new int[] {16, 16, 17}, new int[0]);
    }

    private static void writes(int which, int[] first, int[] again) {
        SuiteLoader x = begun();
        due.is("keep(0, " + which + ")", x.keep(0, which), SuiteLoader.DONE);
        due.log("keep(0, " + which + ")", x, first);
        due.is("keep(5, " + which + ")", x.keep(5, which), SuiteLoader.DONE);
        int[] both = new int[first.length + again.length];
        System.arraycopy(first, 0, both, 0, first.length);
        System.arraycopy(again, 0, both, first.length, again.length);
        due.log("keep twice of " + which, x, both);
    }

    private static void keepRefusesAndLeavesTheSlot() {
        SuiteLoader x = new SuiteLoader();
        int[] notThere = {-1, 6, 7, Integer.MIN_VALUE, Integer.MAX_VALUE};
        for (int n : notThere) {
            due.is("keep(" + n + ", 0) without a world", x.keep(n, 0), SuiteLoader.REFUSED);
            due.is("keep(0, " + n + ") without a world", x.keep(0, n), SuiteLoader.REFUSED);
        }
        due.is("keep(0, 0) without a world", x.keep(0, 0), SuiteLoader.NO_WORLD);
        x.begin(false);
        due.is("isOf(0, 0) after NO_WORLD", x.isOf(0, 0), false);
        x.keep(0, 3);
        for (int n : notThere) {
            due.is("keep(" + n + ", 0)", x.keep(n, 0), SuiteLoader.REFUSED);
            due.is("keep(0, " + n + ")", x.keep(0, n), SuiteLoader.REFUSED);
        }
        due.is("isOf(0, 6) after refusals", x.isOf(0, 6), true);
        due.log("refusals", x, 11);
        x.keep(0, 0);
        due.is("isOf(0, 6) of what was replaced", x.isOf(0, 6), false);
        due.is("isOf(0, 0) of what replaced it", x.isOf(0, 0), true);
    }

    private static void isOfKnowsWhatIsAbove() {
        is(0, 0);
        is(1, 0, 1, 3, 5);
        is(2, 0, 1, 2, 3, 5);
        is(3, 3, 6);
        is(4, 3, 4, 7);
        is(5, 14);
    }

    private static void is(int which, int... classes) {
        SuiteLoader x = begun();
        x.keep(3, which);
        int notes = x.count(2);
        for (int k = -1; k <= 17; k++) {
            boolean want = false;
            for (int c : classes) {
                want |= c == k;
            }
            due.is("isOf(3, " + k + ") of " + which, x.isOf(3, k), want);
            due.is("isOf(2, " + k + ") of an empty slot", x.isOf(2, k), false);
        }
        due.is("count(2) after isOf", x.count(2), notes);
    }

    private static void isOfKnowsTheWorldAtWork() {
        SuiteLoader x = begun();
        x.keep(0, 2);
        x.begin(false);
        x.keep(1, 2);
        due.is("isOf(0, 2), a thing of world 0 in world 1", x.isOf(0, 2), false);
        due.is("isOf(0, 3), a thing of world 0 in world 1", x.isOf(0, 3), false);
        due.is("isOf(1, 2) in world 1", x.isOf(1, 2), true);
        x.enter(0);
        due.is("isOf(0, 2) in world 0", x.isOf(0, 2), true);
        due.is("isOf(1, 2), a thing of world 1 in world 0", x.isOf(1, 2), false);
    }

    private static void isOfIsFalseOutOfRange() {
        SuiteLoader x = begun();
        for (int slot = 0; slot < 6; slot++) {
            x.keep(slot, 2);
        }
        int[] notThere = {-1, 6, Integer.MIN_VALUE, Integer.MAX_VALUE};
        for (int slot : notThere) {
            due.is("isOf(" + slot + ", 2)", x.isOf(slot, 2), false);
            due.is("alike(" + slot + ", 0)", x.alike(slot, 0), false);
            due.is("alike(0, " + slot + ")", x.alike(0, slot), false);
            due.is("alike(" + slot + ", " + slot + ")", x.alike(slot, slot), false);
        }
        int[] noClasses = {-1, 17, Integer.MIN_VALUE, Integer.MAX_VALUE};
        for (int k : noClasses) {
            due.is("isOf(0, " + k + ")", x.isOf(0, k), false);
        }
    }

    private static void alikeNeedsClassAndWorld() {
        SuiteLoader x = begun();
        due.is("alike(0, 0) of an empty slot", x.alike(0, 0), false);
        due.is("alike(0, 1) of empty slots", x.alike(0, 1), false);
        for (int a = 0; a < SORTS; a++) {
            for (int b = 0; b < SORTS; b++) {
                x.keep(0, a);
                x.keep(5, b);
                due.is("alike(0, 5) of " + a + " and " + b, x.alike(0, 5), a == b);
                due.is("alike(5, 0) of " + b + " and " + a, x.alike(5, 0), a == b);
            }
        }
        due.is("alike(0, 0) of itself", x.alike(0, 0), true);
        due.is("alike(0, 1) with an empty slot", x.alike(0, 1), false);
        due.is("alike(1, 0) with an empty slot", x.alike(1, 0), false);
        x.begin(false);
        x.keep(1, 5);
        due.is("alike(0, 1) across worlds", x.alike(0, 1), false);
        due.is("alike(0, 5) of world 0, asked in world 1", x.alike(0, 5), true);
    }

    private static SuiteLoader begun() {
        SuiteLoader x = new SuiteLoader();
        x.begin(false);
        return x;
    }
}
