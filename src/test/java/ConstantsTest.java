/** The document's constants, sentence by sentence. */
public final class ConstantsTest {
    public static void main(String[] args) {
        Section constants = new Section("promises 2 to 11 by the constants");
        constants.test("DONE = 0", "its value", due -> due.is("DONE", SuiteLoader.DONE, 0));
        constants.test("Done.", "each call that can be", ConstantsTest::done);
        constants.test("REFUSED = -1", "its value", due -> due.is("REFUSED", SuiteLoader.REFUSED, -1));
        constants.test("A number out of range, or no room.",
            "each number that a call is given, too small", ConstantsTest::tooSmall);
        constants.test("A number out of range, or no room.",
            "each number that a call is given, too large", ConstantsTest::tooLarge);
        constants.test("A number out of range, or no room.", "no room for a ninth world", ConstantsTest::noRoom);
        constants.test("NO_WORLD = -2", "its value", due -> due.is("NO_WORLD", SuiteLoader.NO_WORLD, -2));
        constants.test("No world is at work.", "each call that needs one", ConstantsTest::noWorld);
        constants.test("No world is at work.", "never again once one was begun", ConstantsTest::neverAgain);
        constants.test("FAILED = -101", "its value and its act", due -> outcome(due, SuiteLoader.FAILED, -101, 12));
        constants.test("GONE = -102", "its value and its act", ConstantsTest::gone);
        constants.test("ASSERTED = -103", "its value and its act", due -> outcome(due, SuiteLoader.ASSERTED, -103, 21));
        constants.test("CASE = -104", "its value and its act", due -> outcome(due, SuiteLoader.CASE, -104, 29));
        constants.end();
    }

    private static void done(Due due) {
        Run x = Run.inWorld(due);
        x.enter(0).is(0);
        x.asserting(true).is(0);
        x.find(0, true).is(0);
        x.keep(0, 0).is(0);
    }

    private static void tooSmall(Due due) {
        Run x = Run.inWorld(due);
        refuses(x, -1, -1, -1, -1, -1, -1);
    }

    private static void tooLarge(Due due) {
        Run x = Run.inWorld(due);
        refuses(x, 1, 30, 17, 6, 0, 3);
    }

    private static void refuses(Run x, int w, int number, int k, int slotOrWhich, int i, int what) {
        x.enter(w).is(-1);
        x.act(number, 0).is(-1);
        x.find(k, false).is(-1);
        x.keep(slotOrWhich, 0).is(-1);
        x.keep(0, slotOrWhich).is(-1);
        x.note(i).is(-1);
        x.count(what).is(-1);
    }

    private static void noRoom(Due due) {
        Run x = Run.inWorlds(due, 8);
        x.begin(true).is(-1);
        x.begin(false).is(-1);
    }

    private static void noWorld(Due due) {
        Run x = new Run(due);
        x.asserting(true).is(-2);
        x.act(0, 0).is(-2);
        x.find(0, true).is(-2);
        x.keep(0, 0).is(-2);
        x.note(0).is(-2);
        x.count(1).is(-2);
        x.count(2).is(-2);
    }

    private static void neverAgain(Due due) {
        Run x = Run.inWorld(due);
        x.enter(5).is(SuiteLoader.REFUSED);
        x.count(1).is(0);
        x.count(2).is(0);
        x.asserting(false).is(SuiteLoader.DONE);
        x.find(3, false).is(SuiteLoader.DONE);
    }

    private static void outcome(Due due, int constant, int value, int number) {
        due.is("the constant", constant, value);
        Run x = new Run(due);
        x.begin(true);
        x.act(number, 0).is(value);
    }

    private static void gone(Due due) {
        due.is("GONE", SuiteLoader.GONE, -102);
        Run x = Run.inWorld(due);
        x.act(12, 0);
        x.act(12, 0).is(-102);
        x.find(8, true).is(-102);
    }
}
