/** Promise 11, sentence by sentence. */
public final class Promise11CountTest {
    public static void main(String[] args) {
        Section count = new Section("promise 11 (count)");
        count.test("Worlds begun (0)", "from none to eight", Promise11CountTest::worldsBegun);
        count.test("Worlds begun (0)", "full: no more than eight", Promise11CountTest::noMoreThanEight);
        count.test("Worlds begun (0)", "entering begins none", Promise11CountTest::enteringBeginsNone);
        count.test("the one at work (1)", "the latest begun", Promise11CountTest::latestBegun);
        count.test("the one at work (1)", "the latest entered", Promise11CountTest::latestEntered);
        count.test("and how many NOTES its LOG has (2)", "none at first", Promise11CountTest::noNotes);
        count.test("and how many NOTES its LOG has (2)", "each world's own", Promise11CountTest::ownNotes);
        count.test("and how many NOTES its LOG has (2)",
            "also those beyond the 64 that are kept", Promise11CountTest::notesBeyondTheKept);
        count.test("NO_WORLD without", "for 1 and 2, not for 0", Promise11CountTest::noWorld);
        count.test("another what: REFUSED.", "too small", Promise11CountTest::tooSmall);
        count.test("another what: REFUSED.", "too large", Promise11CountTest::tooLarge);
        count.test("another what: REFUSED.", "also without a world", Promise11CountTest::refusedWithoutAWorld);
        count.end();
    }

    private static void worldsBegun(Due due) {
        Run x = new Run(due);
        x.count(0).is(0);
        for (int begun = 1; begun <= 8; begun++) {
            x.begin(false);
            x.count(0).is(begun);
        }
    }

    private static void noMoreThanEight(Due due) {
        Run x = Run.inWorlds(due, 8);
        x.begin(false).is(SuiteLoader.REFUSED);
        x.count(0).is(8);
    }

    private static void enteringBeginsNone(Due due) {
        Run x = Run.inWorlds(due, 3);
        x.enter(0);
        x.count(0).is(3);
        x.enter(3);
        x.count(0).is(3);
    }

    private static void latestBegun(Due due) {
        Run x = new Run(due);
        for (int w = 0; w < 8; w++) {
            x.begin(true);
            x.count(1).is(w);
        }
    }

    private static void latestEntered(Due due) {
        Run x = Run.inWorlds(due, 8);
        for (int w = 7; w >= 0; w--) {
            x.enter(w);
            x.count(1).is(w);
        }
        x.enter(8);
        x.count(1).is(0);
    }

    private static void noNotes(Due due) {
        Run x = new Run(due);
        for (int w = 0; w < 8; w++) {
            x.begin(true);
            x.count(2).is(0);
            x.keep(0, 0);
            x.count(2).is(3);
        }
    }

    private static void ownNotes(Due due) {
        Run x = Run.inWorlds(due, 2);
        x.find(2, true);
        x.count(2).is(6);
        x.enter(0);
        x.count(2).is(0);
        x.find(16, true);
        x.count(2).is(1);
        x.enter(1);
        x.count(2).is(6);
    }

    private static void notesBeyondTheKept(Due due) {
        Run x = Run.inWorld(due);
        x.find(0, true);
        for (int written = 3; written <= 130; written++) {
            x.keep(0, 0);
            x.count(2).is(written);
        }
    }

    private static void noWorld(Due due) {
        Run x = new Run(due);
        x.count(1).is(SuiteLoader.NO_WORLD);
        x.count(2).is(SuiteLoader.NO_WORLD);
        x.count(0).is(0);
    }

    private static void tooSmall(Due due) {
        Run x = Run.inWorld(due);
        for (int what : OutOfRange.TOO_SMALL) {
            x.count(what).is(SuiteLoader.REFUSED);
        }
    }

    private static void tooLarge(Due due) {
        Run x = Run.inWorld(due);
        for (int what : OutOfRange.above(2)) {
            x.count(what).is(SuiteLoader.REFUSED);
        }
    }

    private static void refusedWithoutAWorld(Due due) {
        Run x = new Run(due);
        for (int what : OutOfRange.TOO_SMALL) {
            x.count(what).is(SuiteLoader.REFUSED);
        }
        for (int what : OutOfRange.above(2)) {
            x.count(what).is(SuiteLoader.REFUSED);
        }
    }
}
