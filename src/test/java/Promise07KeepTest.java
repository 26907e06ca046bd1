/** Promise 7, sentence by sentence. */
public final class Promise07KeepTest {
    private static final int SLOTS = 6;
    private static final int SORTS = 6;

    public static void main(String[] args) {
        Section keep = new Section("promise 7 (keep)");
        keep.test("The SLOT (0 .. 5)", "each of them, and no other gets the thing", Promise07KeepTest::eachSlot);
        keep.test("The SLOT (0 .. 5)", "too small", Promise07KeepTest::slotTooSmall);
        keep.test("The SLOT (0 .. 5)", "too large", Promise07KeepTest::slotTooLarge);
        keep.test("holds", "a slot that is full holds the newer thing", Promise07KeepTest::fullSlotHoldsTheNewer);
        keep.test("a NEW Base (which 0)", "first and again", Promise07KeepTest::base);
        keep.test("Middle (1)", "first and again", Promise07KeepTest::middle);
        keep.test("Leaf (2)", "first and again", Promise07KeepTest::leaf);
        keep.test("Quiet (3)", "first and again", Promise07KeepTest::quiet);
        keep.test("Loud (4)", "first and again", Promise07KeepTest::loud);
        keep.test("or HIGH of Grade (5)",
            "first and again: Grade is initialised, no new one is made", Promise07KeepTest::high);
        keep.test("else REFUSED", "which is too small", Promise07KeepTest::whichTooSmall);
        keep.test("else REFUSED", "which is too large", Promise07KeepTest::whichTooLarge);
        keep.test("else REFUSED", "both are out of range", Promise07KeepTest::bothOutOfRange);
        keep.test("else REFUSED", "the slot holds what it held", Promise07KeepTest::refusedLeavesTheSlot);
        keep.test("else REFUSED",
            "named before NO_WORLD: so it is without a world, too", Promise07KeepTest::refusedWithoutAWorld);
        keep.test("NO_WORLD", "each slot, each sort", Promise07KeepTest::noWorld);
        keep.test("NO_WORLD", "nothing is held in the world to come", Promise07KeepTest::nothingInTheWorldToCome);
        keep.test("DONE.", "each slot, each sort", Promise07KeepTest::done);
        keep.end();
    }

    private static void eachSlot(Due due) {
        for (int slot = 0; slot < SLOTS; slot++) {
            Run x = Run.inWorld(due);
            x.keep(slot, 3).is(SuiteLoader.DONE);
            for (int other = 0; other < SLOTS; other++) {
                x.isOf(other, 6).is(other == slot);
            }
        }
    }

    private static void slotTooSmall(Due due) {
        Run x = Run.inWorld(due);
        for (int slot : OutOfRange.TOO_SMALL) {
            x.keep(slot, 0).is(SuiteLoader.REFUSED);
            x.keep(slot, 5).is(SuiteLoader.REFUSED);
        }
        holdsNothing(x);
    }

    private static void slotTooLarge(Due due) {
        Run x = Run.inWorld(due);
        for (int slot : OutOfRange.above(5)) {
            x.keep(slot, 0).is(SuiteLoader.REFUSED);
            x.keep(slot, 5).is(SuiteLoader.REFUSED);
        }
        x.keep(8, 0).is(SuiteLoader.REFUSED);
        holdsNothing(x);
    }

    private static void holdsNothing(Run x) {
        x.logIs();
        for (int slot = 0; slot < SLOTS; slot++) {
            x.alike(slot, slot).is(false);
        }
    }

    private static void fullSlotHoldsTheNewer(Due due) {
        Run x = Run.inWorld(due);
        x.keep(5, 3).is(SuiteLoader.DONE);
        x.isOf(5, 6).is(true);
        x.keep(5, 0).is(SuiteLoader.DONE);
        x.isOf(5, 6).is(false);
        x.isOf(5, 0).is(true);
        x.begin(false);
        x.keep(5, 0).is(SuiteLoader.DONE);
        x.isOf(5, 0).is(true);
        x.enter(0);
        x.isOf(5, 0).is(false);
    }

    private static void base(Due due) {
        Run x = Run.inWorld(due);
        x.keep(0, 0).is(SuiteLoader.DONE);
        x.logIs(10, 1, 20);
        x.keep(1, 0).is(SuiteLoader.DONE);
        x.logIs(10, 1, 20, 20);
        x.isOf(0, 0).is(true);
        x.isOf(0, 1).is(false);
    }

    private static void middle(Due due) {
        Run x = Run.inWorld(due);
        x.keep(0, 1).is(SuiteLoader.DONE);
        x.logIs(10, 1, 5, 2, 20, 21, 22, 23);
        x.keep(0, 1).is(SuiteLoader.DONE);
        x.logIs(10, 1, 5, 2, 20, 21, 22, 23, 20, 21, 22, 23);
        x.isOf(0, 1).is(true);
        x.isOf(0, 2).is(false);
    }

    private static void leaf(Due due) {
        Run x = Run.inWorld(due);
        x.keep(0, 2).is(SuiteLoader.DONE);
        x.logIs(10, 1, 5, 2, 6, 3, 20, 21, 22, 23);
        x.keep(0, 2).is(SuiteLoader.DONE);
        x.logIs(10, 1, 5, 2, 6, 3, 20, 21, 22, 23, 20, 21, 22, 23);
        x.isOf(0, 2).is(true);
    }

    private static void quiet(Due due) {
        Run x = Run.inWorld(due);
        x.keep(0, 3).is(SuiteLoader.DONE);
        x.keep(0, 3).is(SuiteLoader.DONE);
        x.logIs(11);
        x.isOf(0, 6).is(true);
    }

    private static void loud(Due due) {
        Run x = Run.inWorld(due);
        x.keep(0, 4).is(SuiteLoader.DONE);
        x.keep(0, 4).is(SuiteLoader.DONE);
        x.logIs(15, 12);
        x.isOf(0, 7).is(true);
    }

    private static void high(Due due) {
        Run x = Run.inWorld(due);
        x.keep(0, 5).is(SuiteLoader.DONE);
        x.keep(1, 5).is(SuiteLoader.DONE);
        x.logIs(16, 16, 17);
        x.isOf(0, 14).is(true);
    }

    private static void whichTooSmall(Due due) {
        refusesSorts(due, OutOfRange.TOO_SMALL);
    }

    private static void whichTooLarge(Due due) {
        refusesSorts(due, OutOfRange.above(5));
        refusesSorts(due, new int[] {8, 13, 14, 16});
    }

    private static void refusesSorts(Due due, int[] sorts) {
        Run x = Run.inWorld(due);
        for (int which : sorts) {
            x.keep(0, which).is(SuiteLoader.REFUSED);
            x.keep(5, which).is(SuiteLoader.REFUSED);
        }
        holdsNothing(x);
    }

    private static void bothOutOfRange(Due due) {
        Run x = Run.inWorld(due);
        x.keep(-1, -1).is(SuiteLoader.REFUSED);
        x.keep(6, 6).is(SuiteLoader.REFUSED);
        x.keep(-1, 6).is(SuiteLoader.REFUSED);
        x.keep(6, -1).is(SuiteLoader.REFUSED);
        holdsNothing(x);
    }

    private static void refusedLeavesTheSlot(Due due) {
        Run x = Run.inWorld(due);
        x.keep(0, 3);
        x.keep(5, 3);
        x.keep(0, 6).is(SuiteLoader.REFUSED);
        x.keep(0, -1).is(SuiteLoader.REFUSED);
        x.keep(5, 6).is(SuiteLoader.REFUSED);
        x.keep(5, -1).is(SuiteLoader.REFUSED);
        x.keep(-1, 0).is(SuiteLoader.REFUSED);
        x.keep(6, 0).is(SuiteLoader.REFUSED);
        x.isOf(0, 6).is(true);
        x.isOf(5, 6).is(true);
        x.logIs(11);
    }

    private static void refusedWithoutAWorld(Due due) {
        Run x = new Run(due);
        x.keep(-1, 0).is(SuiteLoader.REFUSED);
        x.keep(6, 0).is(SuiteLoader.REFUSED);
        x.keep(0, -1).is(SuiteLoader.REFUSED);
        x.keep(0, 6).is(SuiteLoader.REFUSED);
        x.keep(Integer.MIN_VALUE, Integer.MAX_VALUE).is(SuiteLoader.REFUSED);
    }

    private static void noWorld(Due due) {
        Run x = new Run(due);
        for (int slot = 0; slot < SLOTS; slot++) {
            for (int which = 0; which < SORTS; which++) {
                x.keep(slot, which).is(SuiteLoader.NO_WORLD);
            }
        }
    }

    private static void nothingInTheWorldToCome(Due due) {
        Run x = new Run(due);
        x.keep(0, 0).is(SuiteLoader.NO_WORLD);
        x.begin(false);
        x.isOf(0, 0).is(false);
        holdsNothing(x);
    }

    private static void done(Due due) {
        Run x = Run.inWorld(due);
        for (int slot = 0; slot < SLOTS; slot++) {
            for (int which = 0; which < SORTS; which++) {
                x.keep(slot, which).is(SuiteLoader.DONE);
            }
        }
    }
}
