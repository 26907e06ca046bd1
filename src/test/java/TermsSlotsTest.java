import java.util.function.Consumer;

/** The document's terms, sentence by sentence: the slots, and what calls with answers below 0 leave as it is. */
public final class TermsSlotsTest {
    private static final String ACTS =
        "An ACT that comes out as FAILED, GONE, ASSERTED or CASE changes nothing but what INITIALISING has done";
    private static final String OTHERS = "nor does any other call with an answer below 0";

    public static void main(String[] args) {
        Section slots = new Section("promises 2 to 11 by the terms (slots)");
        slots.test("SLOTS 0 .. 5 hold things", "all six at once", TermsSlotsTest::allSix);
        slots.test("SLOTS 0 .. 5 hold things", "there is no slot -1 and no slot 6", TermsSlotsTest::noOthers);
        slots.test("none at first.", "in no world, and in a world", TermsSlotsTest::noneAtFirst);
        slots.test(ACTS, "FAILED", due -> sameAs(due, x -> x.act(15, 0).is(SuiteLoader.FAILED), x -> x.find(9, true)));
        slots.test(ACTS, "GONE", due -> sameAs(due, TermsSlotsTest::actsAreGone, x -> x.find(9, true)));
        slots.test(ACTS, "ASSERTED", due -> sameAs(due, TermsSlotsTest::actIsAsserted, x -> x.find(15, true)));
        slots.test(ACTS, "CASE", due -> sameAs(due, x -> x.act(29, 0).is(SuiteLoader.CASE), x -> x.find(14, true)));
        slots.test(OTHERS, "begin", due -> sameAs(due, TermsSlotsTest::beginIsRefused, TermsSlotsTest::beginAll));
        slots.test(OTHERS, "enter", due -> changesNothing(due, TermsSlotsTest::enterIsRefused));
        slots.test(OTHERS, "act", due -> changesNothing(due, TermsSlotsTest::actIsRefused));
        slots.test(OTHERS, "find, REFUSED", due -> changesNothing(due, TermsSlotsTest::findIsRefused));
        slots.test(OTHERS, "find, GONE", due -> sameAs(due, TermsSlotsTest::findIsGone, x -> x.find(9, true)));
        slots.test(OTHERS, "keep", due -> changesNothing(due, TermsSlotsTest::keepIsRefused));
        slots.test(OTHERS, "note", due -> changesNothing(due, TermsSlotsTest::noteIsRefused));
        slots.test(OTHERS, "count", due -> changesNothing(due, TermsSlotsTest::countIsRefused));
        slots.test(OTHERS, "each, without a world", TermsSlotsTest::noWorldChangesNothing);
        slots.test("(act alone tells values below 0)",
            "no note is below 0, nor is a count", TermsSlotsTest::othersTellNoneBelowZero);
        slots.end();
    }

    private static void allSix(Due due) {
        Run x = Run.inWorld(due);
        for (int slot = 0; slot < 6; slot++) {
            x.keep(slot, slot).is(SuiteLoader.DONE);
        }
        int[] classes = {0, 1, 2, 6, 7, 14};
        for (int slot = 0; slot < 6; slot++) {
            x.isOf(slot, classes[slot]).is(true);
        }
    }

    private static void noOthers(Due due) {
        Run x = Run.inWorld(due);
        for (int slot : new int[] {-1, 6}) {
            x.keep(slot, 0).is(SuiteLoader.REFUSED);
            x.isOf(slot, 0).is(false);
            x.alike(slot, slot).is(false);
        }
    }

    private static void noneAtFirst(Due due) {
        Run x = new Run(due);
        for (int slot = 0; slot < 6; slot++) {
            x.alike(slot, slot).is(false);
        }
        x.begin(false);
        for (int slot = 0; slot < 6; slot++) {
            x.alike(slot, slot).is(false);
            x.isOf(slot, 0).is(false);
        }
    }

    private static void actsAreGone(Run x) {
        x.find(9, true);
        x.act(12, 0).is(SuiteLoader.GONE);
        x.act(14, 0).is(SuiteLoader.GONE);
        x.act(15, 0).is(SuiteLoader.GONE);
    }

    private static void actIsAsserted(Run x) {
        x.act(21, 0).is(SuiteLoader.ASSERTED);
        x.act(21, -5).is(SuiteLoader.ASSERTED);
    }

    private static void beginAll(Run x) {
        for (int w = 2; w < 8; w++) {
            x.begin(true);
        }
        x.enter(1);
    }

    private static void beginIsRefused(Run x) {
        beginAll(x);
        x.begin(true).is(SuiteLoader.REFUSED);
        x.begin(false).is(SuiteLoader.REFUSED);
    }

    private static void enterIsRefused(Run x) {
        x.enter(-1).is(SuiteLoader.REFUSED);
        x.enter(2).is(SuiteLoader.REFUSED);
    }

    private static void actIsRefused(Run x) {
        x.act(-1, 5).is(SuiteLoader.REFUSED);
        x.act(30, 5).is(SuiteLoader.REFUSED);
    }

    private static void findIsRefused(Run x) {
        x.find(-1, true).is(SuiteLoader.REFUSED);
        x.find(17, true).is(SuiteLoader.REFUSED);
    }

    private static void findIsGone(Run x) {
        x.find(9, true);
        x.find(9, true).is(SuiteLoader.GONE);
        x.find(8, true).is(SuiteLoader.GONE);
    }

    private static void keepIsRefused(Run x) {
        x.keep(-1, 0).is(SuiteLoader.REFUSED);
        x.keep(6, 0).is(SuiteLoader.REFUSED);
        x.keep(0, -1).is(SuiteLoader.REFUSED);
        x.keep(0, 6).is(SuiteLoader.REFUSED);
    }

    private static void noteIsRefused(Run x) {
        x.note(-1).is(SuiteLoader.REFUSED);
        x.note(60).is(SuiteLoader.REFUSED);
        x.note(64).is(SuiteLoader.REFUSED);
    }

    private static void countIsRefused(Run x) {
        x.count(-1).is(SuiteLoader.REFUSED);
        x.count(3).is(SuiteLoader.REFUSED);
    }

    private static void noWorldChangesNothing(Due due) {
        Run x = new Run(due);
        x.asserting(true).is(SuiteLoader.NO_WORLD);
        x.act(0, 5).is(SuiteLoader.NO_WORLD);
        x.find(8, true).is(SuiteLoader.NO_WORLD);
        x.keep(0, 0).is(SuiteLoader.NO_WORLD);
        x.note(0).is(SuiteLoader.NO_WORLD);
        x.count(1).is(SuiteLoader.NO_WORLD);
        x.count(2).is(SuiteLoader.NO_WORLD);
        x.enter(0).is(SuiteLoader.REFUSED);
        Run y = new Run(due);
        fill(x);
        fill(y);
        Twins.areSame(due, x, y);
    }

    private static void othersTellNoneBelowZero(Due due) {
        Run x = Run.inWorld(due);
        x.act(0, -500).is(-490);
        x.act(2, -500).is(-500);
        x.logIs(10, 1, 5, 2);
        x.count(0).is(1);
        x.count(1).is(0);
        x.count(2).is(4);
        x.find(0, true).is(SuiteLoader.DONE);
        x.keep(0, 0).is(SuiteLoader.DONE);
    }

    private static void changesNothing(Due due, Consumer<Run> refused) {
        sameAs(due, refused, x -> { });
    }

    /** From then on, an object that has heard the one answers as one that has heard the other. */
    private static void sameAs(Due due, Consumer<Run> one, Consumer<Run> other) {
        Run x = new Run(due);
        Run y = new Run(due);
        fill(x);
        fill(y);
        one.accept(x);
        other.accept(y);
        Twins.areSame(due, x, y);
    }

    /** Two worlds with something of everything; the newer is at work, its assertions are on and not yet settled. */
    private static void fill(Run x) {
        x.begin(false);
        x.keep(0, 0);
        x.act(0, 7);
        x.begin(true);
        x.keep(1, 1);
        x.keep(2, 3);
        x.act(2, 99);
        x.act(22, 1);
    }
}
