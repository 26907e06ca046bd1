/** The document's terms, sentence by sentence: initialising a class. */
public final class TermsInitialisingTest {
    public static void main(String[] args) {
        Section initialising = new Section("promises 5, 6, 7 by the terms (initialising)");
        order(initialising);
        failures(initialising);
        initialising.end();
    }

    private static void order(Section initialising) {
        initialising.test("it is initialised, or is being so: nothing.",
            "it is: each class once, whoever asks", TermsInitialisingTest::once);
        initialising.test("it is initialised, or is being so: nothing.",
            "it is being so: a circle, and a Lazy in Lazy", TermsInitialisingTest::beingSo);
        initialising.test("Else it is being so from now;",
            "before its interfaces and deeds: asked by these, it does not start again", TermsInitialisingTest::fromNow);
        initialising.test("first the class up is INITIALISED", "from the uppermost down", TermsInitialisingTest::upFirst);
        initialising.test("first the class up is INITIALISED",
            "what is initialised already is left out", TermsInitialisingTest::upAlreadyThere);
        initialising.test("then, for each interface that it has, in order",
            "Middle's, after Base and before its deeds", TermsInitialisingTest::interfacesThen);
        initialising.test("and before it each one that this has, those that have a method with a body",
            "Extended for Loud, but not Plain", TermsInitialisingTest::thoseWithABody);
        initialising.test("and before it each one that this has, those that have a method with a body",
            "not Plain for Quiet or Middle", TermsInitialisingTest::notThoseWithout);
        initialising.test("(not those above an interface that is INITIALISED itself)",
            "Extended alone", TermsInitialisingTest::interfaceAlone);
        initialising.test("then its DEEDS.", "at last", TermsInitialisingTest::deedsAtLast);
        initialising.test("Reading or writing another class's value or making a NEW thing in them INITIALISES that class first.",
            "reading, writing, making", TermsInitialisingTest::askingInitialises);
        initialising.test("A value not set yet is 0.",
            "y in First's circle, x in Second's", TermsInitialisingTest::notSetYet);
    }

    private static void failures(Section initialising) {
        initialising.test("It FAILED before: GONE.", "from the second time on", TermsInitialisingTest::gone);
        initialising.test("If the class up comes to FAILED or GONE",
            "FAILED: Worse before Bad", TermsInitialisingTest::upFails);
        initialising.test("If the class up comes to FAILED or GONE",
            "GONE: Worse after Bad", TermsInitialisingTest::upIsGone);
        initialising.test("or its own DEEDS FAIL, it FAILED, and that comes out",
            "Bad", TermsInitialisingTest::ownDeedsFail);
        initialising.test("(FAILED for the failing DEEDS, whatever class it comes out through)",
            "through Worse, by find and by each act", TermsInitialisingTest::failedThroughAnother);
        initialising.test("the NOTES stay.",
            "those before and those of the failing deeds", TermsInitialisingTest::notesStay);
    }

    private static void once(Due due) {
        Run x = Run.inWorld(due);
        x.find(2, true);
        x.find(1, true);
        x.find(0, true);
        x.find(5, true);
        x.act(4, 0);
        x.act(24, 0);
        x.act(28, 0);
        x.act(0, 0);
        x.logIs(10, 1, 5, 2, 6, 3);
    }

    private static void beingSo(Due due) {
        Run x = Run.inWorld(due);
        x.find(10, true).is(SuiteLoader.DONE);
        x.find(11, true).is(SuiteLoader.DONE);
        x.logIs(40, 30);
        x.begin(false);
        x.find(13, true).is(SuiteLoader.DONE);
        x.logIs(10, 1, 20, 14);
    }

    private static void fromNow(Due due) {
        Run x = Run.inWorld(due);
        x.act(17, 0).is(70);
        x.logIs(30, 40);
        x.begin(false);
        x.act(18, 0).is(20);
        x.logIs(13, 10, 1, 20, 14);
    }

    private static void upFirst(Due due) {
        Run x = Run.inWorld(due);
        x.find(2, true);
        x.logIs(10, 1, 5, 2, 6, 3);
        x.begin(false);
        x.find(13, true);
        x.logIs(10, 1, 20, 14);
    }

    private static void upAlreadyThere(Due due) {
        Run x = Run.inWorld(due);
        x.find(0, true);
        x.find(1, true);
        x.find(13, true);
        x.find(2, true);
        x.logIs(10, 1, 5, 2, 20, 14, 6, 3);
    }

    private static void interfacesThen(Due due) {
        Run x = Run.inWorld(due);
        x.find(1, true);
        x.logIs(10, 1, 5, 2);
        x.begin(false);
        x.find(5, true);
        x.find(1, true);
        x.logIs(5, 10, 1, 2);
    }

    private static void thoseWithABody(Due due) {
        Run x = Run.inWorld(due);
        x.find(7, true);
        x.logIs(15, 12);
        x.act(7, 0).is(4);
        x.logIs(15, 12, 4);
        x.begin(false);
        x.find(4, true);
        x.find(7, true);
        x.logIs(15, 12);
    }

    private static void notThoseWithout(Due due) {
        Run x = Run.inWorld(due);
        x.find(6, true);
        x.find(1, true);
        x.logIs(11, 10, 1, 5, 2);
        x.find(3, true);
        x.logIs(11, 10, 1, 5, 2, 4);
    }

    private static void interfaceAlone(Due due) {
        Run x = Run.inWorld(due);
        x.find(4, true);
        x.logIs(15);
        x.find(3, true);
        x.logIs(15, 4);
    }

    private static void deedsAtLast(Due due) {
        Run x = Run.inWorld(due);
        x.find(7, true);
        x.note(1).is(12);
        x.begin(false);
        x.find(2, true);
        x.note(4).is(6);
        x.note(5).is(3);
    }

    private static void askingInitialises(Due due) {
        Run x = Run.inWorld(due);
        x.act(16, 0).is(70);
        x.logIs(40, 30);
        x.act(2, 9).is(9);
        x.logIs(40, 30, 10, 1, 5, 2);
        x.keep(0, 3);
        x.logIs(40, 30, 10, 1, 5, 2, 11);
    }

    private static void notSetYet(Due due) {
        Run x = Run.inWorld(due);
        x.find(10, true);
        x.act(17, 0).is(0 + 40);
        x.act(16, 0).is(40 + 30);
        x.begin(false);
        x.find(11, true);
        x.act(16, 0).is(0 + 30);
        x.act(17, 0).is(30 + 40);
    }

    private static void gone(Due due) {
        Run x = Run.inWorld(due);
        x.find(8, true).is(SuiteLoader.FAILED);
        x.find(8, true).is(SuiteLoader.GONE);
        x.act(12, 0).is(SuiteLoader.GONE);
        x.find(8, true).is(SuiteLoader.GONE);
        x.logIs(7);
    }

    private static void upFails(Due due) {
        Run x = Run.inWorld(due);
        x.find(9, true).is(SuiteLoader.FAILED);
        x.find(9, true).is(SuiteLoader.GONE);
        x.find(8, true).is(SuiteLoader.GONE);
        x.logIs(7);
    }

    private static void upIsGone(Due due) {
        Run x = Run.inWorld(due);
        x.find(8, true).is(SuiteLoader.FAILED);
        x.find(9, true).is(SuiteLoader.GONE);
        x.find(9, true).is(SuiteLoader.GONE);
        x.logIs(7);
    }

    private static void ownDeedsFail(Due due) {
        Run x = Run.inWorld(due);
        x.find(8, true).is(SuiteLoader.FAILED);
        x.begin(false);
        x.act(12, 0).is(SuiteLoader.FAILED);
    }

    private static void failedThroughAnother(Due due) {
        Run x = Run.inWorld(due);
        x.find(9, true).is(SuiteLoader.FAILED);
        x.begin(false);
        x.act(14, 0).is(SuiteLoader.FAILED);
        x.begin(false);
        x.act(15, 0).is(SuiteLoader.FAILED);
    }

    private static void notesStay(Due due) {
        Run x = Run.inWorld(due);
        x.find(12, true);
        x.find(9, true).is(SuiteLoader.FAILED);
        x.logIs(13, 7);
        x.find(9, true).is(SuiteLoader.GONE);
        x.find(16, true);
        x.logIs(13, 7, 19);
    }
}
