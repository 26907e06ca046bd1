/** Promise 1, sentence by sentence. */
public final class Promise01NewObjectTest {
    public static void main(String[] args) {
        Section newObject = new Section("promise 1 (a new object)");
        newObject.test("No worlds.", "none was begun", Promise01NewObjectTest::noneWasBegun);
        newObject.test("No worlds.", "none is at work", Promise01NewObjectTest::noneIsAtWork);
        newObject.test("No worlds.", "none can be entered", Promise01NewObjectTest::noneCanBeEntered);
        newObject.test("No worlds.", "there is room for all eight", Promise01NewObjectTest::roomForAllEight);
        newObject.test("No worlds.",
            "nor has a new object any that another one began", Promise01NewObjectTest::noneOfAnother);
        newObject.end();
    }

    private static void noneWasBegun(Due due) {
        new Run(due).count(0).is(0);
    }

    private static void noneIsAtWork(Due due) {
        Run x = new Run(due);
        x.count(1).is(SuiteLoader.NO_WORLD);
        x.count(2).is(SuiteLoader.NO_WORLD);
    }

    private static void noneCanBeEntered(Due due) {
        Run x = new Run(due);
        for (int w = 0; w < 8; w++) {
            x.enter(w).is(SuiteLoader.REFUSED);
        }
        x.count(1).is(SuiteLoader.NO_WORLD);
    }

    private static void roomForAllEight(Due due) {
        Run x = new Run(due);
        for (int w = 0; w < 8; w++) {
            x.begin(false).is(w);
        }
    }

    private static void noneOfAnother(Due due) {
        Run other = Run.inWorlds(due, 8);
        other.keep(0, 0).is(SuiteLoader.DONE);
        Run x = new Run(due);
        x.count(0).is(0);
        x.count(1).is(SuiteLoader.NO_WORLD);
        x.begin(false).is(0);
        x.count(2).is(0);
        x.isOf(0, 0).is(false);
        other.count(0).is(8);
        other.count(1).is(7);
    }
}
