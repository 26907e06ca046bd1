/** Promise 6, sentence by sentence; what each class writes is in the tests of the document's terms. */
public final class Promise06FindTest {
    private static final int CLASSES = 17;
    private static final int BAD = 8;
    private static final int WORSE = 9;

    public static void main(String[] args) {
        Section find = new Section("promise 6 (find)");
        find.test("Looks class k (0 .. 16, else REFUSED) up", "0, the smallest", Promise06FindTest::smallest);
        find.test("Looks class k (0 .. 16, else REFUSED) up", "16, the largest", Promise06FindTest::largest);
        find.test("Looks class k (0 .. 16, else REFUSED) up", "too small", Promise06FindTest::tooSmall);
        find.test("Looks class k (0 .. 16, else REFUSED) up", "too large", Promise06FindTest::tooLarge);
        find.test("Looks class k (0 .. 16, else REFUSED) up",
            "named before NO_WORLD: so it is without a world, too", Promise06FindTest::refusedWithoutAWorld);
        find.test("and INITIALISES it or not", "not: nothing is written", Promise06FindTest::looksUpOnly);
        find.test("and INITIALISES it or not", "not: it stays as it was", Promise06FindTest::lookingUpLeavesIt);
        find.test("and INITIALISES it or not",
            "it, in the world at work alone", Promise06FindTest::initialisesInTheWorldAtWork);
        find.test("NO_WORLD", "each class, looked up or initialised", Promise06FindTest::noWorld);
        find.test("FAILED, GONE, or DONE.", "FAILED: Bad and Worse", Promise06FindTest::failed);
        find.test("FAILED, GONE, or DONE.", "GONE: from the second time on", Promise06FindTest::gone);
        find.test("FAILED, GONE, or DONE.", "DONE: each other class, again and again", Promise06FindTest::done);
        find.test("FAILED, GONE, or DONE.",
            "DONE: a class that failed, if it is only looked up", Promise06FindTest::failedIsLookedUp);
        find.end();
    }

    private static void smallest(Due due) {
        Run x = Run.inWorld(due);
        x.find(0, false).is(SuiteLoader.DONE);
        x.find(0, true).is(SuiteLoader.DONE);
        x.logIs(10, 1);
    }

    private static void largest(Due due) {
        Run x = Run.inWorld(due);
        x.find(16, false).is(SuiteLoader.DONE);
        x.find(16, true).is(SuiteLoader.DONE);
        x.logIs(19);
    }

    private static void tooSmall(Due due) {
        refuses(due, OutOfRange.TOO_SMALL);
    }

    private static void tooLarge(Due due) {
        refuses(due, OutOfRange.above(16));
        refuses(due, new int[] {29, 30, 32, 34, 48});
    }

    private static void refuses(Due due, int[] classes) {
        Run x = Run.inWorld(due);
        for (int k : classes) {
            x.find(k, true).is(SuiteLoader.REFUSED);
            x.find(k, false).is(SuiteLoader.REFUSED);
        }
        x.logIs();
    }

    private static void refusedWithoutAWorld(Due due) {
        Run x = new Run(due);
        for (int k : OutOfRange.TOO_SMALL) {
            x.find(k, true).is(SuiteLoader.REFUSED);
            x.find(k, false).is(SuiteLoader.REFUSED);
        }
        for (int k : OutOfRange.above(16)) {
            x.find(k, true).is(SuiteLoader.REFUSED);
            x.find(k, false).is(SuiteLoader.REFUSED);
        }
    }

    private static void looksUpOnly(Due due) {
        Run x = Run.inWorld(due);
        for (int k = 0; k < CLASSES; k++) {
            x.find(k, false).is(SuiteLoader.DONE);
            x.count(2).is(0);
        }
    }

    private static void lookingUpLeavesIt(Due due) {
        Run x = Run.inWorld(due);
        x.find(BAD, false).is(SuiteLoader.DONE);
        x.find(BAD, true).is(SuiteLoader.FAILED);
        x.find(0, false).is(SuiteLoader.DONE);
        x.act(0, 4).is(14);
        x.find(0, false).is(SuiteLoader.DONE);
        x.act(1, 0).is(14);
        x.logIs(7, 10, 1);
    }

    private static void initialisesInTheWorldAtWork(Due due) {
        Run x = Run.inWorlds(due, 2);
        x.enter(0);
        x.find(BAD, true).is(SuiteLoader.FAILED);
        x.enter(1);
        x.logIs();
        x.find(BAD, true).is(SuiteLoader.FAILED);
        x.logIs(7);
    }

    private static void noWorld(Due due) {
        Run x = new Run(due);
        for (int k = 0; k < CLASSES; k++) {
            x.find(k, true).is(SuiteLoader.NO_WORLD);
            x.find(k, false).is(SuiteLoader.NO_WORLD);
        }
    }

    private static void failed(Due due) {
        Run x = Run.inWorld(due);
        x.find(BAD, true).is(SuiteLoader.FAILED);
        x.begin(false);
        x.find(WORSE, true).is(SuiteLoader.FAILED);
    }

    private static void gone(Due due) {
        Run x = Run.inWorld(due);
        x.find(WORSE, true).is(SuiteLoader.FAILED);
        for (int more = 0; more < 3; more++) {
            x.find(WORSE, true).is(SuiteLoader.GONE);
            x.find(BAD, true).is(SuiteLoader.GONE);
        }
        x.logIs(7);
    }

    private static void done(Due due) {
        Run x = Run.inWorld(due);
        for (int again = 0; again < 3; again++) {
            for (int k = 0; k < CLASSES; k++) {
                if (k != BAD && k != WORSE) {
                    x.find(k, true).is(SuiteLoader.DONE);
                }
            }
        }
    }

    private static void failedIsLookedUp(Due due) {
        Run x = Run.inWorld(due);
        x.find(WORSE, true).is(SuiteLoader.FAILED);
        x.find(WORSE, false).is(SuiteLoader.DONE);
        x.find(BAD, false).is(SuiteLoader.DONE);
        x.find(BAD, true).is(SuiteLoader.GONE);
    }
}
