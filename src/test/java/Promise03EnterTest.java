/** Promise 3, sentence by sentence. */
public final class Promise03EnterTest {
    public static void main(String[] args) {
        Section enter = new Section("promise 3 (enter)");
        enter.test("World w is at work: DONE", "each of eight, up and down", Promise03EnterTest::eachOfEight);
        enter.test("World w is at work: DONE", "the only one, which is at work", Promise03EnterTest::theOnlyOne);
        enter.test("World w is at work: DONE", "as it was left", Promise03EnterTest::asItWasLeft);
        enter.test("REFUSED", "no world was begun", Promise03EnterTest::noWorld);
        enter.test("REFUSED", "too small", Promise03EnterTest::tooSmall);
        enter.test("REFUSED", "too large: the one to be begun next", Promise03EnterTest::nextIsTooLarge);
        enter.test("REFUSED", "too large: beyond the eighth", Promise03EnterTest::tooLarge);
        enter.end();
    }

    private static void eachOfEight(Due due) {
        Run x = Run.inWorlds(due, 8);
        for (int w = 0; w < 8; w++) {
            x.enter(w).is(SuiteLoader.DONE);
            x.count(1).is(w);
        }
        for (int w = 7; w >= 0; w--) {
            x.enter(w).is(SuiteLoader.DONE);
            x.count(1).is(w);
        }
        x.count(0).is(8);
    }

    private static void theOnlyOne(Due due) {
        Run x = Run.inWorld(due);
        x.act(0, 1);
        x.enter(0).is(SuiteLoader.DONE);
        x.enter(0).is(SuiteLoader.DONE);
        x.count(1).is(0);
        x.act(1, 0).is(11);
        x.logIs(10, 1);
    }

    private static void asItWasLeft(Due due) {
        Run x = Run.inWorlds(due, 2);
        x.act(2, 77);
        x.enter(0).is(SuiteLoader.DONE);
        x.logIs();
        x.act(24, 0).is(12);
        x.find(8, true).is(SuiteLoader.FAILED);
        x.enter(1).is(SuiteLoader.DONE);
        x.act(24, 0).is(77);
        x.find(8, true).is(SuiteLoader.FAILED);
        x.enter(0).is(SuiteLoader.DONE);
        x.act(24, 0).is(12);
        x.find(8, true).is(SuiteLoader.GONE);
        x.logIs(10, 1, 5, 2, 7);
    }

    private static void noWorld(Due due) {
        Run x = new Run(due);
        x.enter(0).is(SuiteLoader.REFUSED);
        x.count(1).is(SuiteLoader.NO_WORLD);
        x.act(0, 0).is(SuiteLoader.NO_WORLD);
    }

    private static void tooSmall(Due due) {
        Run x = Run.inWorlds(due, 3);
        x.enter(1);
        for (int w : OutOfRange.TOO_SMALL) {
            x.enter(w).is(SuiteLoader.REFUSED);
            x.count(1).is(1);
        }
    }

    private static void nextIsTooLarge(Due due) {
        Run x = new Run(due);
        for (int next = 0; next < 8; next++) {
            x.enter(next).is(SuiteLoader.REFUSED);
            x.begin(false).is(next);
            x.enter(next).is(SuiteLoader.DONE);
        }
        x.enter(8).is(SuiteLoader.REFUSED);
        x.count(1).is(7);
    }

    private static void tooLarge(Due due) {
        Run x = Run.inWorlds(due, 8);
        x.enter(2);
        for (int w : OutOfRange.above(7)) {
            x.enter(w).is(SuiteLoader.REFUSED);
            x.count(1).is(2);
        }
    }
}
