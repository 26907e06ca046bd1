/** Promise 5, sentence by sentence; what each act does is in the tests of the document's terms. */
public final class Promise05ActTest {
    private static final int[] OUTCOMES =
        {SuiteLoader.FAILED, SuiteLoader.GONE, SuiteLoader.ASSERTED, SuiteLoader.CASE};

    public static void main(String[] args) {
        Section act = new Section("promise 5 (act)");
        act.test("The ACT (0 .. 29, else REFUSED)", "0, the smallest", Promise05ActTest::smallest);
        act.test("The ACT (0 .. 29, else REFUSED)", "29, the largest", Promise05ActTest::largest);
        act.test("The ACT (0 .. 29, else REFUSED)", "too small", Promise05ActTest::tooSmall);
        act.test("The ACT (0 .. 29, else REFUSED)", "too large", Promise05ActTest::tooLarge);
        act.test("The ACT (0 .. 29, else REFUSED)",
            "named before NO_WORLD: so it is without a world, too", Promise05ActTest::refusedWithoutAWorld);
        act.test("in the world at work", "and in no other", Promise05ActTest::inTheWorldAtWork);
        act.test("NO_WORLD", "each of the thirty", Promise05ActTest::noWorld);
        act.test("NO_WORLD", "nothing has happened in the world to come", Promise05ActTest::nothingInTheWorldToCome);
        act.test("its outcome.", "a value", Promise05ActTest::value);
        act.test("its outcome.", "FAILED, then GONE", Promise05ActTest::failedThenGone);
        act.test("its outcome.", "ASSERTED", Promise05ActTest::asserted);
        act.test("its outcome.", "CASE", Promise05ActTest::noSuchCase);
        act.test("(A value that an ACT tells may be below 0", "down to the least int", Promise05ActTest::valueBelowZero);
        act.test("and like one of the outcomes, too.)", "Base's value", Promise05ActTest::baseLikeAnOutcome);
        act.test("and like one of the outcomes, too.)", "Middle's middle", Promise05ActTest::middleLikeAnOutcome);
        act.test("and like one of the outcomes, too.)",
            "Checked's sum, its assertions off", Promise05ActTest::sumLikeAnOutcome);
        act.test("and like one of the outcomes, too.)", "like REFUSED and NO_WORLD", Promise05ActTest::valueLikeARefusal);
        act.end();
    }

    private static void smallest(Due due) {
        Run.inWorld(due).act(0, 0).is(10);
    }

    private static void largest(Due due) {
        Run.inWorld(due).act(29, 0).is(SuiteLoader.CASE);
    }

    private static void tooSmall(Due due) {
        refuses(due, OutOfRange.TOO_SMALL);
    }

    private static void tooLarge(Due due) {
        refuses(due, OutOfRange.above(29));
        refuses(due, new int[] {32, 59, 60, 128, 255});
    }

    private static void refuses(Due due, int[] numbers) {
        Run x = Run.inWorld(due);
        for (int number : numbers) {
            x.act(number, 0).is(SuiteLoader.REFUSED);
            x.act(number, 1).is(SuiteLoader.REFUSED);
        }
        x.logIs();
    }

    private static void refusedWithoutAWorld(Due due) {
        Run x = new Run(due);
        for (int number : OutOfRange.TOO_SMALL) {
            x.act(number, 1).is(SuiteLoader.REFUSED);
        }
        for (int number : OutOfRange.above(29)) {
            x.act(number, 1).is(SuiteLoader.REFUSED);
        }
    }

    private static void inTheWorldAtWork(Due due) {
        Run x = Run.inWorlds(due, 3);
        x.enter(1);
        x.act(0, 5).is(15);
        x.enter(0);
        x.logIs();
        x.act(1, 0).is(10);
        x.enter(2);
        x.logIs();
        x.act(1, 0).is(10);
        x.enter(1);
        x.logIs(10, 1);
        x.act(1, 0).is(15);
    }

    private static void noWorld(Due due) {
        Run x = new Run(due);
        for (int number = 0; number < 30; number++) {
            x.act(number, 0).is(SuiteLoader.NO_WORLD);
            x.act(number, 1).is(SuiteLoader.NO_WORLD);
        }
    }

    private static void nothingInTheWorldToCome(Due due) {
        Run x = new Run(due);
        x.act(0, 5).is(SuiteLoader.NO_WORLD);
        x.act(12, 0).is(SuiteLoader.NO_WORLD);
        x.begin(false);
        x.logIs();
        x.act(1, 0).is(10);
        x.act(12, 0).is(SuiteLoader.FAILED);
    }

    private static void value(Due due) {
        Run x = Run.inWorld(due);
        x.act(0, 32).is(42);
        x.act(20, 0).is(0);
    }

    private static void failedThenGone(Due due) {
        Run x = Run.inWorld(due);
        x.act(15, 0).is(SuiteLoader.FAILED);
        x.act(15, 0).is(SuiteLoader.GONE);
        x.act(14, 0).is(SuiteLoader.GONE);
        x.act(12, 0).is(SuiteLoader.GONE);
    }

    private static void asserted(Due due) {
        Run x = new Run(due);
        x.begin(true);
        x.act(21, 0).is(SuiteLoader.ASSERTED);
        x.act(21, 0).is(SuiteLoader.ASSERTED);
    }

    private static void noSuchCase(Due due) {
        Run x = Run.inWorld(due);
        x.act(29, 0).is(SuiteLoader.CASE);
        x.act(29, 1).is(SuiteLoader.CASE);
    }

    private static void valueBelowZero(Due due) {
        Run x = Run.inWorld(due);
        x.act(2, -3).is(-3);
        x.act(24, 0).is(-3);
        x.act(2, Integer.MIN_VALUE).is(Integer.MIN_VALUE);
        x.act(27, 0).is(Integer.MIN_VALUE);
        x.act(0, -15).is(-5);
        x.act(1, 0).is(-5);
    }

    private static void baseLikeAnOutcome(Due due) {
        for (int outcome : OUTCOMES) {
            Run x = Run.inWorld(due);
            x.act(0, outcome - 10).is(outcome);
            x.act(1, 0).is(outcome);
            x.act(0, 1).is(outcome + 1);
            x.act(24, 0).is(outcome + 3);
        }
    }

    private static void middleLikeAnOutcome(Due due) {
        Run x = Run.inWorld(due);
        for (int outcome : OUTCOMES) {
            x.act(2, outcome).is(outcome);
            x.act(24, 0).is(outcome);
            x.act(27, 0).is(outcome);
        }
        x.find(1, true).is(SuiteLoader.DONE);
    }

    private static void sumLikeAnOutcome(Due due) {
        Run x = Run.inWorld(due);
        for (int outcome : OUTCOMES) {
            x.act(21, outcome - 1000).is(outcome);
        }
    }

    private static void valueLikeARefusal(Due due) {
        Run x = Run.inWorld(due);
        x.act(0, -11).is(SuiteLoader.REFUSED);
        x.act(0, -1).is(SuiteLoader.NO_WORLD);
        x.act(1, 0).is(SuiteLoader.NO_WORLD);
        x.act(2, SuiteLoader.REFUSED).is(SuiteLoader.REFUSED);
        x.act(24, 0).is(SuiteLoader.REFUSED);
        x.act(21, -1001).is(SuiteLoader.REFUSED);
    }
}
