/** Promise 4, sentence by sentence. */
public final class Promise04AssertingTest {
    public static void main(String[] args) {
        Section asserting = new Section("promise 4 (asserting)");
        asserting.test("Switches the assertions of Checked", "on", Promise04AssertingTest::on);
        asserting.test("Switches the assertions of Checked", "off", Promise04AssertingTest::off);
        asserting.test("Switches the assertions of Checked",
            "the last switching counts", Promise04AssertingTest::lastCounts);
        asserting.test("Switches the assertions of Checked",
            "and initialises nothing", Promise04AssertingTest::initialisesNothing);
        asserting.test("in the world at work.",
            "not in those before and after it", Promise04AssertingTest::worldAtWorkAlone);
        asserting.test("NO_WORLD", "none was begun", Promise04AssertingTest::noWorld);
        asserting.test("NO_WORLD",
            "nothing is switched for the world to come", Promise04AssertingTest::nothingForTheWorldToCome);
        asserting.test("DONE (also when they are settled).", "not settled", Promise04AssertingTest::doneWhenNotSettled);
        asserting.test("DONE (also when they are settled).",
            "settled on, and it stays so", Promise04AssertingTest::settledOn);
        asserting.test("DONE (also when they are settled).",
            "settled off, and it stays so", Promise04AssertingTest::settledOff);
        asserting.end();
    }

    private static void on(Due due) {
        Run x = new Run(due);
        x.begin(false);
        x.asserting(true);
        x.act(21, 0).is(SuiteLoader.ASSERTED);
    }

    private static void off(Due due) {
        Run x = new Run(due);
        x.begin(true);
        x.asserting(false);
        x.act(21, 0).is(1000);
    }

    private static void lastCounts(Due due) {
        Run x = new Run(due);
        x.begin(false);
        x.asserting(true);
        x.asserting(false);
        x.act(21, 0).is(1000);
        x.begin(true);
        x.asserting(false);
        x.asserting(true);
        x.asserting(true);
        x.act(21, 0).is(SuiteLoader.ASSERTED);
    }

    private static void initialisesNothing(Due due) {
        Run x = Run.inWorld(due);
        x.asserting(true);
        x.asserting(false);
        x.logIs();
        x.find(15, false);
        x.asserting(true);
        x.act(21, 0).is(SuiteLoader.ASSERTED);
        x.logIs(18);
    }

    private static void worldAtWorkAlone(Due due) {
        Run x = Run.inWorlds(due, 3);
        x.enter(1);
        x.asserting(true);
        x.begin(false);
        x.act(21, 0).is(1000);
        x.enter(0);
        x.act(21, 0).is(1000);
        x.enter(2);
        x.act(21, 0).is(1000);
        x.enter(1);
        x.act(21, 0).is(SuiteLoader.ASSERTED);
    }

    private static void noWorld(Due due) {
        Run x = new Run(due);
        x.asserting(true).is(SuiteLoader.NO_WORLD);
        x.asserting(false).is(SuiteLoader.NO_WORLD);
        x.count(0).is(0);
    }

    private static void nothingForTheWorldToCome(Due due) {
        Run x = new Run(due);
        x.asserting(true).is(SuiteLoader.NO_WORLD);
        x.begin(false);
        x.act(21, 0).is(1000);
        Run y = new Run(due);
        y.asserting(false).is(SuiteLoader.NO_WORLD);
        y.begin(true);
        y.act(21, 0).is(SuiteLoader.ASSERTED);
    }

    private static void doneWhenNotSettled(Due due) {
        Run x = new Run(due);
        x.begin(false);
        x.asserting(true).is(SuiteLoader.DONE);
        x.asserting(true).is(SuiteLoader.DONE);
        x.asserting(false).is(SuiteLoader.DONE);
    }

    private static void settledOn(Due due) {
        Run x = new Run(due);
        x.begin(true);
        x.find(15, true);
        x.asserting(false).is(SuiteLoader.DONE);
        x.act(21, 0).is(SuiteLoader.ASSERTED);
        x.asserting(true).is(SuiteLoader.DONE);
        x.act(21, 0).is(SuiteLoader.ASSERTED);
        x.logIs(18);
    }

    private static void settledOff(Due due) {
        Run x = new Run(due);
        x.begin(false);
        x.act(21, 1).is(1001);
        x.asserting(true).is(SuiteLoader.DONE);
        x.act(21, 0).is(1000);
        x.asserting(false).is(SuiteLoader.DONE);
        x.act(21, 0).is(1000);
        x.logIs(18);
    }
}
