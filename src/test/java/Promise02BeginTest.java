/** Promise 2, sentence by sentence. */
public final class Promise02BeginTest {
    public static void main(String[] args) {
        Section begin = new Section("promise 2 (begin)");
        begin.test("A new world is at work", "from each begin on", Promise02BeginTest::newWorldIsAtWork);
        begin.test("A new world is at work", "nothing of the worlds before is in it", Promise02BeginTest::worldIsNew);
        begin.test("with its assertions switched on or off", "on", Promise02BeginTest::switchedOn);
        begin.test("with its assertions switched on or off", "off", Promise02BeginTest::switchedOff);
        begin.test("with its assertions switched on or off",
            "its own, not those of other worlds", Promise02BeginTest::switchedAlone);
        begin.test("8 were begun: REFUSED.", "the eighth has room", Promise02BeginTest::eighthHasRoom);
        begin.test("8 were begun: REFUSED.", "full: the ninth and all after it", Promise02BeginTest::ninthIsRefused);
        begin.test("8 were begun: REFUSED.", "the world at work stays", Promise02BeginTest::refusedLeavesTheWorldAtWork);
        begin.test("8 were begun: REFUSED.",
            "the assertions stay as they were switched", Promise02BeginTest::refusedSwitchesNothing);
        begin.test("Answers its number.", "from 0 to 7", Promise02BeginTest::answersItsNumber);
        begin.test("Answers its number.",
            "also when an older world is at work", Promise02BeginTest::answersItsNumberFromAnOlderWorld);
        begin.end();
    }

    private static void newWorldIsAtWork(Due due) {
        Run x = new Run(due);
        for (int w = 0; w < 8; w++) {
            x.begin(w % 2 == 0);
            x.count(1).is(w);
            x.enter(0);
        }
    }

    private static void worldIsNew(Due due) {
        Run x = Run.inWorld(due);
        x.act(0, 5).is(15);
        x.find(8, true).is(SuiteLoader.FAILED);
        x.begin(false);
        x.logIs();
        x.act(1, 0).is(10);
        x.find(8, true).is(SuiteLoader.FAILED);
        x.logIs(10, 1, 7);
    }

    private static void switchedOn(Due due) {
        Run x = new Run(due);
        x.begin(true);
        x.act(21, 0).is(SuiteLoader.ASSERTED);
    }

    private static void switchedOff(Due due) {
        Run x = new Run(due);
        x.begin(false);
        x.act(21, 0).is(1000);
    }

    private static void switchedAlone(Due due) {
        Run x = new Run(due);
        x.begin(true);
        x.begin(false);
        x.begin(true);
        x.act(21, 0).is(SuiteLoader.ASSERTED);
        x.enter(1);
        x.act(21, 0).is(1000);
        x.enter(0);
        x.act(21, 0).is(SuiteLoader.ASSERTED);
    }

    private static void eighthHasRoom(Due due) {
        Run x = Run.inWorlds(due, 7);
        x.begin(true).is(7);
        x.count(0).is(8);
        x.count(1).is(7);
    }

    private static void ninthIsRefused(Due due) {
        Run x = Run.inWorlds(due, 8);
        for (int more = 0; more < 10; more++) {
            x.begin(more % 2 == 0).is(SuiteLoader.REFUSED);
            x.count(0).is(8);
        }
        x.enter(8).is(SuiteLoader.REFUSED);
    }

    private static void refusedLeavesTheWorldAtWork(Due due) {
        Run x = Run.inWorlds(due, 8);
        x.enter(3);
        x.act(0, 5);
        x.begin(true).is(SuiteLoader.REFUSED);
        x.count(1).is(3);
        x.act(1, 0).is(15);
        x.logIs(10, 1);
        x.enter(7);
        x.act(1, 0).is(10);
    }

    private static void refusedSwitchesNothing(Due due) {
        Run x = Run.inWorlds(due, 8);
        x.begin(true).is(SuiteLoader.REFUSED);
        x.act(21, 0).is(1000);
        x.enter(0);
        x.act(21, 0).is(1000);
    }

    private static void answersItsNumber(Due due) {
        Run x = new Run(due);
        for (int w = 0; w < 8; w++) {
            x.begin(w % 2 == 0).is(w);
        }
    }

    private static void answersItsNumberFromAnOlderWorld(Due due) {
        Run x = new Run(due);
        x.begin(false).is(0);
        x.begin(false).is(1);
        x.enter(0);
        x.begin(false).is(2);
        x.enter(1);
        x.begin(true).is(3);
    }
}
