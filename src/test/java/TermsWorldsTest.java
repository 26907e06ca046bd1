/** The document's terms, sentence by sentence: worlds and their logs. */
public final class TermsWorldsTest {
    public static void main(String[] args) {
        Section worlds = new Section("promises 2, 3, 10, 11 by the terms (worlds)");
        worlds.test("WORLDS are numbered 0, 1, .. (at most 8)", "0 to 7, and no more", TermsWorldsTest::numbered);
        worlds.test("one is at work, the latest begun or entered",
            "begun after entered, entered after begun", TermsWorldsTest::latestBegunOrEntered);
        worlds.test("one is at work, the latest begun or entered",
            "a refused begin or enter is none of these", TermsWorldsTest::refusedIsNoneOfThese);
        worlds.test("(none at first)", "until the first is begun", TermsWorldsTest::noneAtFirst);
        worlds.test("Each has CLASSES of its own", "their values are apart", TermsWorldsTest::valuesAreApart);
        worlds.test("Each has CLASSES of its own", "their failures are apart", TermsWorldsTest::failuresAreApart);
        worlds.test("not initialised at first",
            "each class writes when it is first asked", TermsWorldsTest::notInitialisedAtFirst);
        worlds.test("and a LOG of NOTES, numbers", "empty at first, and each world's own", TermsWorldsTest::ownLog);
        worlds.test("(all are counted", "at 63, 64, 65 and far beyond", TermsWorldsTest::allAreCounted);
        worlds.test("the first 64 kept)", "a full log keeps them as they are", TermsWorldsTest::fullLogStays);
        worlds.test("the first 64 kept)",
            "of four notes at the end, the two that still have room", TermsWorldsTest::noteByNote);
        worlds.test("the first 64 kept)", "in each world", TermsWorldsTest::keptInEachWorld);
        worlds.end();
    }

    private static void numbered(Due due) {
        Run x = new Run(due);
        for (int w = 0; w < 8; w++) {
            x.begin(false).is(w);
        }
        x.begin(false).is(SuiteLoader.REFUSED);
        x.count(0).is(8);
    }

    private static void latestBegunOrEntered(Due due) {
        Run x = Run.inWorlds(due, 2);
        x.count(1).is(1);
        x.enter(0);
        x.count(1).is(0);
        x.begin(false);
        x.count(1).is(2);
        x.enter(1);
        x.count(1).is(1);
        x.enter(2);
        x.count(1).is(2);
    }

    private static void refusedIsNoneOfThese(Due due) {
        Run x = Run.inWorlds(due, 8);
        x.enter(5);
        x.enter(8).is(SuiteLoader.REFUSED);
        x.count(1).is(5);
        x.enter(-1).is(SuiteLoader.REFUSED);
        x.count(1).is(5);
        x.begin(false).is(SuiteLoader.REFUSED);
        x.count(1).is(5);
    }

    private static void noneAtFirst(Due due) {
        Run x = new Run(due);
        x.count(1).is(SuiteLoader.NO_WORLD);
        x.act(0, 0).is(SuiteLoader.NO_WORLD);
        x.begin(false);
        x.count(1).is(0);
        x.act(0, 0).is(10);
    }

    private static void valuesAreApart(Due due) {
        Run x = Run.inWorlds(due, 2);
        x.act(0, 5).is(15);
        x.act(2, 77).is(77);
        x.act(22, 1).is(22);
        x.enter(0);
        x.act(1, 0).is(10);
        x.act(24, 0).is(12);
        x.act(22, 0).is(21);
        x.act(0, -1).is(9);
        x.enter(1);
        x.act(1, 0).is(15);
        x.act(24, 0).is(77);
        x.act(22, 0).is(24);
    }

    private static void failuresAreApart(Due due) {
        Run x = Run.inWorlds(due, 2);
        x.act(12, 0).is(SuiteLoader.FAILED);
        x.enter(0);
        x.act(14, 0).is(SuiteLoader.FAILED);
        x.act(12, 0).is(SuiteLoader.GONE);
        x.enter(1);
        x.act(14, 0).is(SuiteLoader.GONE);
    }

    private static void notInitialisedAtFirst(Due due) {
        int[] written = {2, 4, 6, 1, 1, 1, 1, 2, 1, 1, 2, 2, 1, 4, 3, 1, 1};
        for (int k = 0; k < written.length; k++) {
            Run x = Run.inWorld(due);
            x.find(k, true);
            x.count(2).is(written[k]);
            x.begin(false);
            x.count(2).is(0);
            x.find(k, true);
            x.count(2).is(written[k]);
        }
    }

    private static void ownLog(Due due) {
        Run x = Run.inWorlds(due, 2);
        x.logIs();
        x.find(16, true);
        x.enter(0);
        x.logIs();
        x.find(12, true);
        x.logIs(13);
        x.enter(1);
        x.logIs(19);
    }

    private static void allAreCounted(Due due) {
        Run x = Run.inWorld(due);
        write(x, 63);
        x.keep(0, 0);
        x.count(2).is(64);
        x.keep(0, 0);
        x.count(2).is(65);
        x.keep(0, 1);
        x.count(2).is(65 + 2 + 4);
        for (int more = 0; more < 300; more++) {
            x.keep(0, 1);
        }
        x.count(2).is(65 + 2 + 4 + 4 * 300);
    }

    private static void fullLogStays(Due due) {
        Run x = Run.inWorld(due);
        write(x, 64);
        x.find(16, true);
        x.find(12, true);
        x.keep(0, 2);
        x.note(0).is(10);
        x.note(1).is(1);
        for (int i = 2; i < 64; i++) {
            x.note(i).is(20);
        }
        x.note(64).is(SuiteLoader.REFUSED);
    }

    private static void noteByNote(Due due) {
        Run x = Run.inWorld(due);
        x.find(1, true);
        for (int made = 4; made < 62; made++) {
            x.keep(0, 0);
        }
        x.count(2).is(62);
        x.keep(0, 1);
        x.count(2).is(66);
        x.note(62).is(20);
        x.note(63).is(21);
        x.note(64).is(SuiteLoader.REFUSED);
        x.note(65).is(SuiteLoader.REFUSED);
    }

    private static void keptInEachWorld(Due due) {
        Run x = Run.inWorlds(due, 2);
        write(x, 70);
        x.enter(0);
        write(x, 64);
        x.find(16, true);
        x.note(63).is(20);
        x.note(64).is(SuiteLoader.REFUSED);
        x.enter(1);
        x.count(2).is(70);
        x.note(63).is(20);
        x.note(69).is(SuiteLoader.REFUSED);
    }

    /** In a world that is new: Base's two notes, then those of new Bases. */
    private static void write(Run x, int notes) {
        x.find(0, true);
        for (int written = 2; written < notes; written++) {
            x.keep(0, 0);
        }
        x.count(2).is(notes);
    }
}
