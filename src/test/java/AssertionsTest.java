/** Promise 4 (asserting), and begin's switch: assertions are settled when Checked is initialised. */
public final class AssertionsTest {
    private static final Due due = new Due();

    public static void main(String[] args) {
        beginSwitches();
        switchingBeforeCheckedCounts();
        switchingAfterCheckedIsTooLate();
        switchingIsForTheWorldAtWorkAlone();
        onlyArgumentsAboveZeroPass();
        due.end();
    }

    private static void beginSwitches() {
        SuiteLoader x = new SuiteLoader();
        due.is("asserting(true) without a world", x.asserting(true), SuiteLoader.NO_WORLD);
        due.is("asserting(false) without a world", x.asserting(false), SuiteLoader.NO_WORLD);
        x.begin(false);
        due.is("act(21, 0), off", x.act(21, 0), 1000);
        x.begin(true);
        due.is("act(21, 0), on", x.act(21, 0), SuiteLoader.ASSERTED);
        due.log("an assertion that does not hold", x, 18);
    }

    private static void switchingBeforeCheckedCounts() {
        SuiteLoader x = new SuiteLoader();
        x.begin(false);
        due.is("asserting(true)", x.asserting(true), SuiteLoader.DONE);
        due.is("act(21, 0), switched on", x.act(21, 0), SuiteLoader.ASSERTED);
        x.begin(true);
        x.find(15, false);
        due.is("asserting(false)", x.asserting(false), SuiteLoader.DONE);
        due.is("act(21, 0), switched off", x.act(21, 0), 1000);
        x.begin(false);
        x.asserting(true);
        x.asserting(false);
        due.is("act(21, 0), switched on and off", x.act(21, 0), 1000);
    }

    private static void switchingAfterCheckedIsTooLate() {
        SuiteLoader x = new SuiteLoader();
        x.begin(true);
        x.find(15, true);
        due.is("asserting(false), settled", x.asserting(false), SuiteLoader.DONE);
        due.is("act(21, 0), settled on", x.act(21, 0), SuiteLoader.ASSERTED);
        x.begin(false);
        x.act(21, 1);
        due.is("asserting(true), settled", x.asserting(true), SuiteLoader.DONE);
        due.is("act(21, 0), settled off", x.act(21, 0), 1000);
        due.log("switching late", x, 18);
    }

    private static void switchingIsForTheWorldAtWorkAlone() {
        SuiteLoader x = new SuiteLoader();
        x.begin(false);
        x.begin(false);
        x.enter(0);
        x.asserting(true);
        x.begin(false);
        due.is("act(21, 0) in world 2", x.act(21, 0), 1000);
        x.enter(1);
        due.is("act(21, 0) in world 1", x.act(21, 0), 1000);
        x.enter(0);
        due.is("act(21, 0) in world 0", x.act(21, 0), SuiteLoader.ASSERTED);
    }

    private static void onlyArgumentsAboveZeroPass() {
        SuiteLoader x = new SuiteLoader();
        x.begin(true);
        due.is("act(21, 1), on", x.act(21, 1), 1001);
        due.is("act(21, -1), on", x.act(21, -1), SuiteLoader.ASSERTED);
        due.is("act(21, MIN), on", x.act(21, Integer.MIN_VALUE), SuiteLoader.ASSERTED);
        due.is("act(21, MAX), on", x.act(21, Integer.MAX_VALUE), Integer.MIN_VALUE + 999);
        x.begin(false);
        due.is("act(21, -1103), off", x.act(21, -1103), -103);
        due.is("act(21, MIN), off", x.act(21, Integer.MIN_VALUE), Integer.MIN_VALUE + 1000);
    }
}
