/** Promise 9, sentence by sentence. */
public final class Promise09AlikeTest {
    private static final int SORTS = 6;

    public static void main(String[] args) {
        Section alike = new Section("promise 9 (alike)");
        alike.test("things of the same class", "each sort with each", Promise09AlikeTest::sameClass);
        alike.test("things of the same class", "a slot with itself", Promise09AlikeTest::withItself);
        alike.test("things of the same class", "as the slots are filled now", Promise09AlikeTest::asTheyAreFilledNow);
        alike.test("of the same world.", "not across worlds", Promise09AlikeTest::acrossWorlds);
        alike.test("of the same world.", "whichever is at work", Promise09AlikeTest::whicheverIsAtWork);
        alike.test("Whether both SLOTS hold things", "two empty slots do not", Promise09AlikeTest::bothEmpty);
        alike.test("Whether both SLOTS hold things",
            "an empty slot with itself does not", Promise09AlikeTest::emptyWithItself);
        alike.test("Whether both SLOTS hold things", "one empty slot does not", Promise09AlikeTest::oneEmpty);
        alike.test("Whether both SLOTS hold things", "a slot that is too small does not", Promise09AlikeTest::tooSmall);
        alike.test("Whether both SLOTS hold things", "a slot that is too large does not", Promise09AlikeTest::tooLarge);
        alike.test("Whether both SLOTS hold things", "none without a world", Promise09AlikeTest::noWorld);
        alike.end();
    }

    private static void sameClass(Due due) {
        Run x = Run.inWorld(due);
        for (int a = 0; a < SORTS; a++) {
            x.keep(0, a);
            for (int b = 0; b < SORTS; b++) {
                x.keep(5, b);
                x.alike(0, 5).is(a == b);
                x.alike(5, 0).is(a == b);
            }
        }
    }

    private static void withItself(Due due) {
        Run x = Run.inWorld(due);
        for (int slot = 0; slot < 6; slot++) {
            x.keep(slot, slot);
            x.alike(slot, slot).is(true);
        }
    }

    private static void asTheyAreFilledNow(Due due) {
        Run x = Run.inWorld(due);
        x.keep(0, 3);
        x.keep(1, 3);
        x.alike(0, 1).is(true);
        x.keep(1, 4);
        x.alike(0, 1).is(false);
        x.keep(0, 4);
        x.alike(0, 1).is(true);
    }

    private static void acrossWorlds(Due due) {
        Run x = Run.inWorld(due);
        x.keep(0, 2);
        x.begin(false);
        x.keep(1, 2);
        x.alike(0, 1).is(false);
        x.alike(1, 0).is(false);
        x.keep(0, 2);
        x.alike(0, 1).is(true);
    }

    private static void whicheverIsAtWork(Due due) {
        Run x = Run.inWorld(due);
        x.keep(0, 5);
        x.keep(1, 5);
        x.keep(2, 0);
        x.begin(false);
        x.alike(0, 1).is(true);
        x.alike(0, 2).is(false);
        x.enter(0);
        x.alike(0, 1).is(true);
    }

    private static void bothEmpty(Due due) {
        Run x = Run.inWorld(due);
        for (int a = 0; a < 6; a++) {
            for (int b = 0; b < 6; b++) {
                x.alike(a, b).is(false);
            }
        }
    }

    private static void emptyWithItself(Due due) {
        Run x = Run.inWorld(due);
        x.keep(1, 0);
        x.alike(0, 0).is(false);
        x.alike(2, 2).is(false);
    }

    private static void oneEmpty(Due due) {
        Run x = Run.inWorld(due);
        x.keep(3, 0);
        for (int other = 0; other < 6; other++) {
            x.alike(3, other).is(other == 3);
            x.alike(other, 3).is(other == 3);
        }
    }

    private static void tooSmall(Due due) {
        alikeToNone(due, OutOfRange.TOO_SMALL);
    }

    private static void tooLarge(Due due) {
        alikeToNone(due, OutOfRange.above(5));
    }

    private static void alikeToNone(Due due, int[] slots) {
        Run x = Run.inWorld(due);
        for (int slot = 0; slot < 6; slot++) {
            x.keep(slot, 0);
        }
        for (int slot : slots) {
            x.alike(slot, 0).is(false);
            x.alike(0, slot).is(false);
            x.alike(5, slot).is(false);
            x.alike(slot, 5).is(false);
            x.alike(slot, slot).is(false);
        }
    }

    private static void noWorld(Due due) {
        Run x = new Run(due);
        for (int a = -1; a <= 6; a++) {
            for (int b = -1; b <= 6; b++) {
                x.alike(a, b).is(false);
            }
        }
    }
}
