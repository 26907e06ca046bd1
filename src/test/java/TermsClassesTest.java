/** The document's terms, sentence by sentence: the classes, their deeds, and what is done by new things. */
public final class TermsClassesTest {
    public static void main(String[] args) {
        Section classes = new Section("promises 5, 6, 7 by the terms (classes)");
        eachClass(classes);
        newThings(classes);
        classes.end();
    }

    private static void eachClass(Section classes) {
        classes.test("stands for writing the NOTE n, which is also its value",
            "each value that an act tells is its note", TermsClassesTest::valueIsItsNote);
        classes.test("their DEEDS in order, run when they are initialised",
            "Leaf's two, Base's two, Grade's three", TermsClassesTest::deedsInOrder);
        classes.test("0 Base: value = 10; 1.", "notes and value", TermsClassesTest::base);
        classes.test("1 Middle, up Base, has Plain and Defaulted: middle = 2 + Base's value (2 being noted first).",
            "notes and value", TermsClassesTest::middle);
        classes.test("2 Leaf, up Middle: BOXED = 6; 3;", "notes and value", TermsClassesTest::leaf);
        classes.test("it has CONSTANTS, 70 and a text.", "nothing is written", TermsClassesTest::leafConstants);
        classes.test("3 Plain, an interface: A = 4.", "notes and value", TermsClassesTest::plain);
        classes.test("4 Extended, an interface that has Plain, with a method that has a body: E = 15.",
            "notes and value", TermsClassesTest::extended);
        classes.test("5 Defaulted, an interface with a method that has a body: B = 5.",
            "notes and value", TermsClassesTest::defaulted);
        classes.test("6 Quiet, has Plain: quiet = 11.", "notes and value", TermsClassesTest::quiet);
        classes.test("7 Loud, has Extended: loud = 12.", "notes", TermsClassesTest::loud);
        classes.test("8 Bad: n = 7; then it FAILS;", "notes and outcome", TermsClassesTest::bad);
        classes.test("it has a CONSTANT, 71.",
            "nothing is written, also when Bad has failed", TermsClassesTest::badConstant);
        classes.test("9 Worse, up Bad: w = 8.", "8 is never written", TermsClassesTest::worse);
        classes.test("10 First: x = Second's y + 30 (y is asked before 30 is noted).",
            "notes and value", TermsClassesTest::first);
        classes.test("11 Second: y = First's x + 40 likewise.", "notes and value", TermsClassesTest::second);
        classes.test("12 Holder: 13.", "notes", TermsClassesTest::holder);
        classes.test("13 Lazy, up Base: INSTANCE = a new Lazy; 14.", "notes", TermsClassesTest::lazy);
        classes.test("14 Grade: LOW = a new one with 3 points (16), HIGH = a new one with 9 (16); COUNT = 17.",
            "notes and values", TermsClassesTest::grade);
        classes.test("15 Checked: whether its assertions are ON is settled as they are switched now; 18.",
            "notes, and when it is settled", TermsClassesTest::checked);
        classes.test("16 Slow: made = 19.", "notes and value", TermsClassesTest::slow);
    }

    private static void newThings(Section classes) {
        classes.test("A NEW Base", "20", TermsClassesTest::newBase);
        classes.test("or Middle, does for its class and those up from it, the uppermost first: Base: 20; Middle: 21, 22, 23.",
            "20 first", TermsClassesTest::newMiddle);
        classes.test("(A Leaf does both", "and nothing of its own", TermsClassesTest::newLeaf);
        classes.test("a Lazy Base's.)", "20 alone", TermsClassesTest::newLazy);
        classes.test("A NEW Base, Leaf or Lazy, or Middle, does",
            "a new Quiet or Loud does nothing", TermsClassesTest::otherThings);
    }

    private static void valueIsItsNote(Due due) {
        int[] acts = {1, 4, 7, 11, 28};
        int[] classes = {0, 2, 3, 6, 5};
        int[] places = {0, 4, 0, 0, 0};
        int[] notes = {10, 6, 4, 11, 5};
        for (int i = 0; i < acts.length; i++) {
            Run x = Run.inWorld(due);
            x.find(classes[i], true);
            x.note(places[i]).is(notes[i]);
            x.act(acts[i], 0).is(notes[i]);
        }
    }

    private static void deedsInOrder(Due due) {
        Run x = Run.inWorld(due);
        x.find(2, true);
        x.find(14, true);
        x.logIs(10, 1, 5, 2, 6, 3, 16, 16, 17);
    }

    private static void base(Due due) {
        Run x = initialised(due, 0, 10, 1);
        x.act(1, 0).is(10);
    }

    private static void middle(Due due) {
        Run x = initialised(due, 1, 10, 1, 5, 2);
        x.act(24, 0).is(12);
        x.begin(false);
        x.act(0, 100).is(110);
        x.find(1, true);
        x.logIs(10, 1, 5, 2);
        x.act(24, 0).is(112);
        x.act(0, 1).is(111);
        x.act(24, 0).is(112);
    }

    private static void leaf(Due due) {
        Run x = initialised(due, 2, 10, 1, 5, 2, 6, 3);
        x.act(4, 0).is(6);
    }

    private static void leafConstants(Due due) {
        Run x = Run.inWorld(due);
        x.act(3, 0).is(70);
        x.act(23, 0).is(20);
        x.logIs();
    }

    private static void plain(Due due) {
        Run x = initialised(due, 3, 4);
        x.act(7, 0).is(4);
    }

    private static void extended(Due due) {
        Run x = initialised(due, 4, 15);
        x.act(9, 0).is(19);
    }

    private static void defaulted(Due due) {
        Run x = initialised(due, 5, 5);
        x.act(28, 0).is(5);
    }

    private static void quiet(Due due) {
        Run x = initialised(due, 6, 11);
        x.act(11, 0).is(11);
    }

    private static void loud(Due due) {
        initialised(due, 7, 15, 12);
    }

    private static void bad(Due due) {
        Run x = Run.inWorld(due);
        x.find(8, true).is(SuiteLoader.FAILED);
        x.logIs(7);
    }

    private static void badConstant(Due due) {
        Run x = Run.inWorld(due);
        x.act(13, 0).is(71);
        x.logIs();
        x.find(8, true).is(SuiteLoader.FAILED);
        x.act(13, 0).is(71);
        x.logIs(7);
    }

    private static void worse(Due due) {
        Run x = Run.inWorld(due);
        x.find(9, true).is(SuiteLoader.FAILED);
        x.find(9, true).is(SuiteLoader.GONE);
        x.logIs(7);
    }

    private static void first(Due due) {
        Run x = initialised(due, 10, 40, 30);
        x.act(16, 0).is(70);
        x.act(17, 0).is(40);
    }

    private static void second(Due due) {
        Run x = initialised(due, 11, 30, 40);
        x.act(17, 0).is(70);
        x.act(16, 0).is(30);
    }

    private static void holder(Due due) {
        initialised(due, 12, 13);
    }

    private static void lazy(Due due) {
        initialised(due, 13, 10, 1, 20, 14);
    }

    private static void grade(Due due) {
        Run x = initialised(due, 14, 16, 16, 17);
        x.act(19, 0).is(3 + 17);
        x.act(19, 1).is(18 + 17);
    }

    private static void checked(Due due) {
        Run x = initialised(due, 15, 18);
        x.asserting(true);
        x.act(21, 0).is(1000);
        x.begin(false);
        x.asserting(true);
        x.find(15, true);
        x.asserting(false);
        x.act(21, 0).is(SuiteLoader.ASSERTED);
    }

    private static void slow(Due due) {
        Run x = initialised(due, 16, 19);
        x.act(22, 0).is(21);
    }

    private static void newBase(Due due) {
        Run x = initialised(due, 0, 10, 1);
        x.keep(0, 0);
        x.logIs(10, 1, 20);
    }

    private static void newMiddle(Due due) {
        Run x = initialised(due, 1, 10, 1, 5, 2);
        x.keep(0, 1);
        x.logIs(10, 1, 5, 2, 20, 21, 22, 23);
    }

    private static void newLeaf(Due due) {
        Run x = initialised(due, 2, 10, 1, 5, 2, 6, 3);
        x.keep(0, 2);
        x.logIs(10, 1, 5, 2, 6, 3, 20, 21, 22, 23);
    }

    private static void newLazy(Due due) {
        Run x = initialised(due, 1, 10, 1, 5, 2);
        x.find(13, true);
        x.logIs(10, 1, 5, 2, 20, 14);
    }

    private static void otherThings(Due due) {
        Run x = initialised(due, 6, 11);
        x.find(7, true);
        x.keep(0, 3);
        x.keep(0, 4);
        x.act(10, 0);
        x.act(11, 0);
        x.logIs(11, 15, 12);
    }

    /** The class is initialised in a new world, and once more, which writes nothing. */
    private static Run initialised(Due due, int k, int... notes) {
        Run x = Run.inWorld(due);
        x.find(k, true).is(SuiteLoader.DONE);
        x.logIs(notes);
        x.find(k, true).is(SuiteLoader.DONE);
        x.logIs(notes);
        return x;
    }
}
