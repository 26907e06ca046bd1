/** The document's terms, sentence by sentence: the acts by number, each first in a new world. */
public final class TermsActsTest {
    private static final int MIN = Integer.MIN_VALUE;
    private static final int MAX = Integer.MAX_VALUE;
    private static final int[] EVEN = {0, 2, -2, 1000, MAX - 1, MIN, MIN + 2};
    private static final int[] ODD = {1, 3, -1, -3, 1001, MAX, MIN + 1};

    public static void main(String[] args) {
        Section acts = new Section("promise 5 by the terms (acts)");
        upToNine(acts);
        upToNineteen(acts);
        upToTwentyNine(acts);
        acts.end();
    }

    private static void upToNine(Section acts) {
        acts.test("each INITIALISES what it asks, in order",
            "Extended before Plain, Holder before Lazy", TermsActsTest::askedInOrder);
        acts.test("0 Base's value grows by a: it.", "first and again", TermsActsTest::baseGrows);
        acts.test("0 Base's value grows by a: it.", "by 0 and by less than 0", TermsActsTest::baseShrinks);
        acts.test("0 Base's value grows by a: it.", "a wrap-around at either end", TermsActsTest::baseWrapsAround);
        acts.test("1 Base's value, asked through Leaf (Base alone).",
            "Leaf and Middle stay", TermsActsTest::baseThroughLeaf);
        acts.test("2 Middle's middle becomes a: it.", "after Middle's own deeds", TermsActsTest::middleBecomes);
        acts.test("2 Middle's middle becomes a: it.", "the least and the largest int", TermsActsTest::middleBecomesAnyInt);
        acts.test("3 Leaf's CONSTANT (nothing is initialised by a CONSTANT): 70.",
            "again and again", due -> tellsAlways(due, 3, 70));
        acts.test("4 Leaf's BOXED.", "first and again", due -> tells(due, 4, 5, 6, 10, 1, 5, 2, 6, 3));
        acts.test("5 arrays of Leaf and Bad (nothing): 5.", "again and again", due -> tellsAlways(due, 5, 5));
        acts.test("5 arrays of Leaf and Bad (nothing): 5.",
            "also when Bad has failed", due -> tellsThoughBadFailed(due, 5, 5));
        acts.test("6 whether a null is a Leaf (nothing): 2.", "again and again", due -> tellsAlways(due, 6, 2));
        acts.test("7 Plain's A.", "first and again", due -> tells(due, 7, 5, 4, 4));
        acts.test("8 Plain's A, asked through Quiet (Plain alone).", "Quiet stays", TermsActsTest::plainThroughQuiet);
        acts.test("9 Extended's E plus Plain's A, asked through Loud (these two alone).",
            "Extended first; Loud stays", TermsActsTest::sumThroughLoud);
    }

    private static void upToNineteen(Section acts) {
        acts.test("10 a NEW Loud: 1.", "first and again", due -> tells(due, 10, 5, 1, 15, 12));
        acts.test("11 a NEW Quiet: its quiet.", "first and again", due -> tells(due, 11, 5, 11, 11));
        acts.test("12 Bad's n.", "FAILED, then GONE", due -> fails(due, 12));
        acts.test("13 Bad's CONSTANT: 71.", "again and again", due -> tellsAlways(due, 13, 71));
        acts.test("13 Bad's CONSTANT: 71.", "also when Bad has failed", due -> tellsThoughBadFailed(due, 13, 71));
        acts.test("14 Worse's w.", "FAILED, then GONE", due -> fails(due, 14));
        acts.test("15 a NEW Worse: 0.", "FAILED, then GONE", due -> fails(due, 15));
        acts.test("16 First's x.", "asked first and second", TermsActsTest::firstsX);
        acts.test("17 Second's y.", "asked first and second", TermsActsTest::secondsY);
        acts.test("18 Holder, then Lazy: 20.", "first and again", due -> tells(due, 18, 5, 20, 13, 10, 1, 20, 14));
        acts.test("18 Holder, then Lazy: 20.", "Lazy was there before", TermsActsTest::lazyBeforeHolder);
        acts.test("18 Holder, then Lazy: 20.", "whatever Base's value is", TermsActsTest::lazyAfterBaseGrew);
        acts.test("19 Grade: the grade number a modulo 2 from below (the low bit), 3 points for LOW, 18 for HIGH, plus COUNT.",
            "even: LOW", due -> tellsEach(due, 19, EVEN, 20, 16, 16, 17));
        acts.test("19 Grade: the grade number a modulo 2 from below (the low bit), 3 points for LOW, 18 for HIGH, plus COUNT.",
            "odd, below 0 too: HIGH", due -> tellsEach(due, 19, ODD, 35, 16, 16, 17));
    }

    private static void upToTwentyNine(Section acts) {
        acts.test("20 Grade: 0 for an even a (LOW), else 1.", "even", due -> tellsEach(due, 20, EVEN, 0, 16, 16, 17));
        acts.test("20 Grade: 0 for an even a (LOW), else 1.",
            "odd, below 0 too", due -> tellsEach(due, 20, ODD, 1, 16, 16, 17));
        acts.test("21 Checked: a + 1000;", "its assertions off: any a", TermsActsTest::checkedOff);
        acts.test("21 Checked: a + 1000;", "a wrap-around, on and off", TermsActsTest::checkedWrapsAround);
        acts.test("but if its assertions are ON and a is not above 0: ASSERTED.",
            "1 is above, 0 and less are not", TermsActsTest::checkedOn);
        acts.test("22 two threads (three, if a is odd) at once ask Slow, made growing by 1 for each: made then.",
            "even: two", due -> tellsEach(due, 22, EVEN, 21, 19));
        acts.test("22 two threads (three, if a is odd) at once ask Slow, made growing by 1 for each: made then.",
            "odd, below 0 too: three", due -> tellsEach(due, 22, ODD, 22, 19));
        acts.test("22 two threads (three, if a is odd) at once ask Slow, made growing by 1 for each: made then.",
            "made goes on growing, 19 is written once", TermsActsTest::madeGoesOnGrowing);
        acts.test("23 texts of Leaf (nothing): 20.", "again and again", due -> tellsAlways(due, 23, 20));
        acts.test("24 Middle's middle.", "first and again", due -> tells(due, 24, 5, 12, 10, 1, 5, 2));
        acts.test("24 Middle's middle.", "a wrap-around of 2 and Base's value", TermsActsTest::middleWrapsAround);
        acts.test("25 Second is looked up by name and, if a is odd, INITIALISED: 18.",
            "even: nothing", due -> tellsEach(due, 25, EVEN, 18));
        acts.test("25 Second is looked up by name and, if a is odd, INITIALISED: 18.",
            "odd, below 0 too: Second", due -> tellsEach(due, 25, ODD, 18, 30, 40));
        acts.test("26 a NEW Leaf, made by reflection: 1.", "first and again", TermsActsTest::leafByReflection);
        acts.test("27 Middle's middle, read by reflection.", "first and again", due -> tells(due, 27, 5, 12, 10, 1, 5, 2));
        acts.test("28 Defaulted's B.", "first and again", due -> tells(due, 28, 5, 5, 5));
        acts.test("29 a grade that isn't there, asked of Grade: CASE.",
            "Grade is initialised, and goes on as ever", TermsActsTest::gradeThatIsNotThere);
    }

    /** In a new world the act tells this and leaves these notes; once more, it writes no more. */
    private static void tells(Due due, int number, int argument, int want, int... notes) {
        Run x = Run.inWorld(due);
        x.act(number, argument).is(want);
        x.logIs(notes);
        x.act(number, argument).is(want);
        x.logIs(notes);
    }

    private static void tellsEach(Due due, int number, int[] arguments, int want, int... notes) {
        for (int argument : arguments) {
            Run x = Run.inWorld(due);
            x.act(number, argument).is(want);
            x.logIs(notes);
        }
    }

    /** Whatever the argument, and nothing is written. */
    private static void tellsAlways(Due due, int number, int want) {
        Run x = Run.inWorld(due);
        for (int argument : new int[] {0, 1, -1, MIN, MAX}) {
            x.act(number, argument).is(want);
        }
        x.logIs();
    }

    private static void tellsThoughBadFailed(Due due, int number, int want) {
        Run x = Run.inWorld(due);
        x.find(9, true).is(SuiteLoader.FAILED);
        x.act(number, 0).is(want);
        x.logIs(7);
    }

    private static void fails(Due due, int number) {
        Run x = Run.inWorld(due);
        x.act(number, 0).is(SuiteLoader.FAILED);
        x.act(number, 0).is(SuiteLoader.GONE);
        x.act(number, 1).is(SuiteLoader.GONE);
        x.logIs(7);
    }

    private static void askedInOrder(Due due) {
        Run x = Run.inWorld(due);
        x.act(9, 0);
        x.act(18, 0);
        x.logIs(15, 4, 13, 10, 1, 20, 14);
    }

    private static void baseGrows(Due due) {
        Run x = Run.inWorld(due);
        x.act(0, 5).is(15);
        x.act(0, 7).is(22);
        x.act(1, 0).is(22);
        x.logIs(10, 1);
    }

    private static void baseShrinks(Due due) {
        Run x = Run.inWorld(due);
        x.act(0, 0).is(10);
        x.act(0, -10).is(0);
        x.act(0, -1).is(-1);
        x.act(1, 0).is(-1);
    }

    private static void baseWrapsAround(Due due) {
        Run x = Run.inWorld(due);
        x.act(0, MAX - 10).is(MAX);
        x.act(0, 1).is(MIN);
        x.act(1, 0).is(MIN);
        x.act(0, -1).is(MAX);
        x.act(0, MIN).is(-1);
        x.act(0, MIN).is(MAX);
    }

    private static void baseThroughLeaf(Due due) {
        Run x = Run.inWorld(due);
        x.act(1, 99).is(10);
        x.act(1, -99).is(10);
        x.logIs(10, 1);
    }

    private static void middleBecomes(Due due) {
        Run x = Run.inWorld(due);
        x.act(2, 5).is(5);
        x.logIs(10, 1, 5, 2);
        x.act(24, 0).is(5);
        x.act(2, 0).is(0);
        x.act(27, 0).is(0);
        x.act(1, 0).is(10);
    }

    private static void middleBecomesAnyInt(Due due) {
        Run x = Run.inWorld(due);
        x.act(2, MIN).is(MIN);
        x.act(24, 0).is(MIN);
        x.act(2, MAX).is(MAX);
        x.act(24, 0).is(MAX);
    }

    private static void plainThroughQuiet(Due due) {
        Run x = Run.inWorld(due);
        x.act(8, 5).is(4);
        x.act(8, 5).is(4);
        x.logIs(4);
        x.find(6, true);
        x.logIs(4, 11);
    }

    private static void sumThroughLoud(Due due) {
        tells(due, 9, 5, 19, 15, 4);
        Run x = Run.inWorld(due);
        x.find(3, true);
        x.act(9, 0).is(19);
        x.logIs(4, 15);
        x.find(7, true);
        x.logIs(4, 15, 12);
    }

    private static void firstsX(Due due) {
        tells(due, 16, 5, 70, 40, 30);
        Run x = Run.inWorld(due);
        x.act(17, 0);
        x.act(16, 0).is(30);
        x.logIs(30, 40);
    }

    private static void secondsY(Due due) {
        tells(due, 17, 5, 70, 30, 40);
        Run x = Run.inWorld(due);
        x.act(16, 0);
        x.act(17, 0).is(40);
        x.logIs(40, 30);
    }

    private static void lazyBeforeHolder(Due due) {
        Run x = Run.inWorld(due);
        x.find(13, true);
        x.act(18, 0).is(20);
        x.logIs(10, 1, 20, 14, 13);
    }

    private static void lazyAfterBaseGrew(Due due) {
        Run x = Run.inWorld(due);
        x.act(0, 500);
        x.act(18, 0).is(20);
        x.logIs(10, 1, 13, 20, 14);
    }

    private static void checkedOff(Due due) {
        Run x = Run.inWorld(due);
        x.act(21, 1).is(1001);
        x.act(21, 0).is(1000);
        x.act(21, -1).is(999);
        x.act(21, -1000).is(0);
        x.act(21, MIN).is(MIN + 1000);
        x.logIs(18);
    }

    private static void checkedWrapsAround(Due due) {
        Run x = Run.inWorld(due);
        x.act(21, MAX - 1000).is(MAX);
        x.act(21, MAX - 999).is(MIN);
        x.act(21, MAX).is(MIN + 999);
        x.begin(true);
        x.act(21, MAX - 1000).is(MAX);
        x.act(21, MAX - 999).is(MIN);
        x.act(21, MAX).is(MIN + 999);
    }

    private static void checkedOn(Due due) {
        Run x = new Run(due);
        x.begin(true);
        x.act(21, 1).is(1001);
        x.act(21, 2).is(1002);
        x.act(21, 0).is(SuiteLoader.ASSERTED);
        x.act(21, -1).is(SuiteLoader.ASSERTED);
        x.act(21, -1000).is(SuiteLoader.ASSERTED);
        x.act(21, MIN).is(SuiteLoader.ASSERTED);
        x.logIs(18);
    }

    private static void madeGoesOnGrowing(Due due) {
        Run x = Run.inWorld(due);
        x.act(22, 2).is(21);
        x.act(22, -1).is(24);
        x.act(22, 0).is(26);
        x.act(22, 7).is(29);
        x.logIs(19);
    }

    private static void middleWrapsAround(Due due) {
        Run x = Run.inWorld(due);
        x.act(0, MAX - 10).is(MAX);
        x.act(24, 0).is(MIN + 1);
        x.act(27, 0).is(MIN + 1);
        x.begin(false);
        x.act(0, MAX - 12).is(MAX - 2);
        x.act(24, 0).is(MAX);
    }

    private static void leafByReflection(Due due) {
        Run x = Run.inWorld(due);
        x.act(26, 0).is(1);
        x.logIs(10, 1, 5, 2, 6, 3, 20, 21, 22, 23);
        x.act(26, 1).is(1);
        x.logIs(10, 1, 5, 2, 6, 3, 20, 21, 22, 23, 20, 21, 22, 23);
    }

    private static void gradeThatIsNotThere(Due due) {
        Run x = Run.inWorld(due);
        x.act(29, 0).is(SuiteLoader.CASE);
        x.logIs(16, 16, 17);
        x.act(29, 1).is(SuiteLoader.CASE);
        x.act(19, 0).is(20);
        x.find(14, true).is(SuiteLoader.DONE);
        x.logIs(16, 16, 17);
    }
}
