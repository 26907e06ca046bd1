/** Promise 8, sentence by sentence. */
public final class Promise08IsOfTest {
    private static final int CLASSES = 17;

    public static void main(String[] args) {
        Section isOf = new Section("promise 8 (isOf)");
        isOf.test("its own class", "each sort of thing", Promise08IsOfTest::ownClass);
        isOf.test("one up from it", "one step and two, but never down", Promise08IsOfTest::oneUp);
        isOf.test("or an interface that one of these has", "its own class or one up from it", Promise08IsOfTest::interfaces);
        isOf.test("or that has it",
            "Plain, which Loud's Extended has; a Quiet is no Extended for it", Promise08IsOfTest::interfaceOfAnInterface);
        isOf.test("Whether the thing in the SLOT is of class k",
            "each sort, each class, and nothing else", Promise08IsOfTest::nothingElse);
        isOf.test("Whether the thing in the SLOT is of class k", "an empty slot holds none", Promise08IsOfTest::emptySlot);
        isOf.test("Whether the thing in the SLOT is of class k",
            "asking initialises nothing", Promise08IsOfTest::initialisesNothing);
        isOf.test("False out of range", "the slot is too small", Promise08IsOfTest::slotTooSmall);
        isOf.test("False out of range", "the slot is too large", Promise08IsOfTest::slotTooLarge);
        isOf.test("False out of range", "the class is too small", Promise08IsOfTest::classTooSmall);
        isOf.test("False out of range", "the class is too large", Promise08IsOfTest::classTooLarge);
        isOf.test("False out of range", "no world is at work", Promise08IsOfTest::noWorld);
        isOf.test("and for things of other worlds.", "older and newer ones", Promise08IsOfTest::otherWorlds);
        isOf.test("of the world at work",
            "true again when their world is at work again", Promise08IsOfTest::worldAtWorkAgain);
        isOf.end();
    }

    private static void ownClass(Due due) {
        Run x = withEachSort(due);
        x.isOf(0, 0).is(true);
        x.isOf(1, 1).is(true);
        x.isOf(2, 2).is(true);
        x.isOf(3, 6).is(true);
        x.isOf(4, 7).is(true);
        x.isOf(5, 14).is(true);
    }

    private static void oneUp(Due due) {
        Run x = withEachSort(due);
        x.isOf(1, 0).is(true);
        x.isOf(2, 1).is(true);
        x.isOf(2, 0).is(true);
        x.isOf(0, 1).is(false);
        x.isOf(0, 2).is(false);
        x.isOf(1, 2).is(false);
        x.isOf(0, 13).is(false);
    }

    private static void interfaces(Due due) {
        Run x = withEachSort(due);
        x.isOf(1, 3).is(true);
        x.isOf(1, 5).is(true);
        x.isOf(2, 3).is(true);
        x.isOf(2, 5).is(true);
        x.isOf(3, 3).is(true);
        x.isOf(4, 4).is(true);
        x.isOf(0, 3).is(false);
        x.isOf(0, 5).is(false);
    }

    private static void interfaceOfAnInterface(Due due) {
        Run x = withEachSort(due);
        x.isOf(4, 3).is(true);
        x.isOf(3, 4).is(false);
        x.isOf(1, 4).is(false);
        x.isOf(2, 4).is(false);
    }

    private static void nothingElse(Due due) {
        Run x = withEachSort(due);
        isOfThese(x, 0, 0);
        isOfThese(x, 1, 0, 1, 3, 5);
        isOfThese(x, 2, 0, 1, 2, 3, 5);
        isOfThese(x, 3, 3, 6);
        isOfThese(x, 4, 3, 4, 7);
        isOfThese(x, 5, 14);
    }

    private static void isOfThese(Run x, int slot, int... classes) {
        for (int k = 0; k < CLASSES; k++) {
            boolean want = false;
            for (int c : classes) {
                want |= c == k;
            }
            x.isOf(slot, k).is(want);
        }
    }

    private static void emptySlot(Due due) {
        Run x = Run.inWorld(due);
        for (int k = 0; k < CLASSES; k++) {
            x.isOf(0, k).is(false);
            x.isOf(5, k).is(false);
        }
        x.keep(1, 2);
        x.isOf(0, 0).is(false);
        x.isOf(2, 0).is(false);
    }

    private static void initialisesNothing(Due due) {
        Run x = Run.inWorld(due);
        x.keep(0, 3);
        for (int k = 0; k < CLASSES; k++) {
            x.isOf(0, k);
            x.isOf(1, k);
        }
        x.logIs(11);
        x.find(8, true).is(SuiteLoader.FAILED);
    }

    private static void slotTooSmall(Due due) {
        Run x = withEachSort(due);
        for (int slot : OutOfRange.TOO_SMALL) {
            x.isOf(slot, 0).is(false);
            x.isOf(slot, 14).is(false);
        }
    }

    private static void slotTooLarge(Due due) {
        Run x = withEachSort(due);
        for (int slot : OutOfRange.above(5)) {
            x.isOf(slot, 0).is(false);
            x.isOf(slot, 14).is(false);
        }
    }

    private static void classTooSmall(Due due) {
        Run x = withEachSort(due);
        for (int k : OutOfRange.TOO_SMALL) {
            x.isOf(0, k).is(false);
            x.isOf(2, k).is(false);
            x.isOf(5, k).is(false);
        }
    }

    private static void classTooLarge(Due due) {
        Run x = withEachSort(due);
        for (int k : OutOfRange.above(16)) {
            x.isOf(0, k).is(false);
            x.isOf(2, k).is(false);
            x.isOf(5, k).is(false);
        }
        x.isOf(0, 32).is(false);
    }

    private static void noWorld(Due due) {
        Run x = new Run(due);
        for (int slot = -1; slot <= 6; slot++) {
            for (int k = -1; k <= CLASSES; k++) {
                x.isOf(slot, k).is(false);
            }
        }
    }

    private static void otherWorlds(Due due) {
        Run x = Run.inWorlds(due, 3);
        x.enter(0);
        x.keep(0, 2);
        x.enter(2);
        x.keep(2, 2);
        x.enter(1);
        x.keep(1, 2);
        for (int k = 0; k < CLASSES; k++) {
            x.isOf(0, k).is(false);
            x.isOf(2, k).is(false);
        }
        x.isOf(1, 2).is(true);
    }

    private static void worldAtWorkAgain(Due due) {
        Run x = Run.inWorld(due);
        x.keep(0, 2);
        x.begin(false);
        x.isOf(0, 2).is(false);
        x.enter(0);
        x.isOf(0, 2).is(true);
        x.isOf(0, 3).is(true);
    }

    /** Slot and sort have the same number. */
    private static Run withEachSort(Due due) {
        Run x = Run.inWorld(due);
        for (int which = 0; which < 6; which++) {
            x.keep(which, which);
        }
        return x;
    }
}
