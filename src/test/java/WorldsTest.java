/** Promises 1 (a new object), 2 (begin), 3 (enter), 10 (note) and 11 (count). */
public final class WorldsTest {
    private static final Due due = new Due();

    public static void main(String[] args) {
        newObjectHasNoWorlds();
        beginNumbersWorldsUpToEight();
        enterChangesTheWorldAtWork();
        worldsAreApart();
        objectsAreApart();
        notesAreKeptUpToSixtyFour();
        countRefusesOtherNumbers();
        due.end();
    }

    private static void newObjectHasNoWorlds() {
        SuiteLoader x = new SuiteLoader();
        due.is("new: count(0)", x.count(0), 0);
        due.is("new: count(1)", x.count(1), SuiteLoader.NO_WORLD);
        due.is("new: count(2)", x.count(2), SuiteLoader.NO_WORLD);
        due.is("new: note(0)", x.note(0), SuiteLoader.NO_WORLD);
        due.is("new: note(-1)", x.note(-1), SuiteLoader.NO_WORLD);
        due.is("new: enter(0)", x.enter(0), SuiteLoader.REFUSED);
        due.is("new: asserting(true)", x.asserting(true), SuiteLoader.NO_WORLD);
        for (int number = 0; number < 30; number++) {
            due.is("new: act(" + number + ", 1)", x.act(number, 1), SuiteLoader.NO_WORLD);
        }
        for (int k = 0; k < 17; k++) {
            due.is("new: find(" + k + ", true)", x.find(k, true), SuiteLoader.NO_WORLD);
            due.is("new: find(" + k + ", false)", x.find(k, false), SuiteLoader.NO_WORLD);
            due.is("new: isOf(0, " + k + ")", x.isOf(0, k), false);
        }
        for (int slot = 0; slot < 6; slot++) {
            due.is("new: keep(" + slot + ", 0)", x.keep(slot, 0), SuiteLoader.NO_WORLD);
            due.is("new: alike(" + slot + ", " + slot + ")", x.alike(slot, slot), false);
        }
        due.is("new: count(0) at last", x.count(0), 0);
    }

    private static void beginNumbersWorldsUpToEight() {
        SuiteLoader x = new SuiteLoader();
        for (int w = 0; w < 8; w++) {
            due.is("begin number " + w, x.begin(w % 2 == 0), w);
            due.is("count(0) after begin", x.count(0), w + 1);
            due.is("count(1) after begin", x.count(1), w);
            due.is("count(2) after begin", x.count(2), 0);
            due.is("note(0) after begin", x.note(0), SuiteLoader.REFUSED);
        }
        x.enter(3);
        due.is("the ninth begin", x.begin(true), SuiteLoader.REFUSED);
        due.is("count(0) after a refused begin", x.count(0), 8);
        due.is("count(1) after a refused begin", x.count(1), 3);
    }

    private static void enterChangesTheWorldAtWork() {
        SuiteLoader x = new SuiteLoader();
        x.begin(false);
        x.begin(false);
        x.begin(false);
        due.is("enter(1)", x.enter(1), SuiteLoader.DONE);
        due.is("count(1) after enter(1)", x.count(1), 1);
        int[] notThere = {-1, 3, 7, 8, Integer.MIN_VALUE, Integer.MAX_VALUE};
        for (int w : notThere) {
            due.is("enter(" + w + ") of three", x.enter(w), SuiteLoader.REFUSED);
            due.is("count(1) after enter(" + w + ")", x.count(1), 1);
        }
        due.is("enter(1) again", x.enter(1), SuiteLoader.DONE);
        due.is("enter(0)", x.enter(0), SuiteLoader.DONE);
        due.is("count(1) after enter(0)", x.count(1), 0);
        due.is("begin after enter(0)", x.begin(false), 3);
        due.is("count(1) after that begin", x.count(1), 3);
    }

    private static void worldsAreApart() {
        SuiteLoader x = new SuiteLoader();
        x.begin(false);
        due.is("act(0, 5) in world 0", x.act(0, 5), 15);
        due.is("find(8, true) in world 0", x.find(8, true), SuiteLoader.FAILED);
        x.begin(false);
        due.is("act(1, 0) in world 1", x.act(1, 0), 10);
        due.is("find(8, true) in world 1", x.find(8, true), SuiteLoader.FAILED);
        due.log("both in world 1", x, 10, 1, 7);
        x.act(2, 77);
        x.enter(0);
        due.is("act(1, 0) back in world 0", x.act(1, 0), 15);
        due.is("find(8, true) back in world 0", x.find(8, true), SuiteLoader.GONE);
        due.log("the way back to world 0", x, 10, 1, 7);
        due.is("act(24, 0) in world 0", x.act(24, 0), 17);
        x.enter(1);
        due.is("act(24, 0) in world 1", x.act(24, 0), 77);
    }

    private static void objectsAreApart() {
        SuiteLoader x = new SuiteLoader();
        SuiteLoader y = new SuiteLoader();
        x.begin(false);
        x.keep(0, 0);
        due.is("count(0) of the other object", y.count(0), 0);
        y.begin(false);
        due.is("count(2) of the other object", y.count(2), 0);
        due.is("isOf(0, 0) of the other object", y.isOf(0, 0), false);
    }

    private static void notesAreKeptUpToSixtyFour() {
        SuiteLoader x = new SuiteLoader();
        x.begin(false);
        due.is("note(0) of an empty log", x.note(0), SuiteLoader.REFUSED);
        x.find(0, true);
        for (int made = 1; made <= 100; made++) {
            x.keep(0, 0);
            int written = 2 + made;
            int last = written - 1;
            due.is("count(2) at " + written, x.count(2), written);
            due.is("note(" + last + ") at " + written, x.note(last), last < 64 ? 20 : SuiteLoader.REFUSED);
            due.is("note(" + written + ") at " + written, x.note(written), SuiteLoader.REFUSED);
        }
        due.is("note(0)", x.note(0), 10);
        due.is("note(1)", x.note(1), 1);
        due.is("note(63)", x.note(63), 20);
        int[] notThere = {-1, 64, 65, 101, 102, Integer.MIN_VALUE, Integer.MAX_VALUE};
        for (int i : notThere) {
            due.is("note(" + i + ")", x.note(i), SuiteLoader.REFUSED);
        }
        x.begin(false);
        due.is("count(2) in the next world", x.count(2), 0);
        due.is("note(0) in the next world", x.note(0), SuiteLoader.REFUSED);
    }

    private static void countRefusesOtherNumbers() {
        SuiteLoader x = new SuiteLoader();
        int[] others = {-1, 3, 4, Integer.MIN_VALUE, Integer.MAX_VALUE};
        for (int what : others) {
            due.is("count(" + what + ") without a world", x.count(what), SuiteLoader.REFUSED);
        }
        x.begin(true);
        for (int what : others) {
            due.is("count(" + what + ")", x.count(what), SuiteLoader.REFUSED);
        }
    }
}
