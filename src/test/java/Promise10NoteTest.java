/** Promise 10, sentence by sentence. */
public final class Promise10NoteTest {
    public static void main(String[] args) {
        Section note = new Section("promise 10 (note)");
        note.test("NOTE i (from 0)", "the first is 0", Promise10NoteTest::firstIsZero);
        note.test("NOTE i (from 0)", "the last is one below their number", Promise10NoteTest::lastIsOneBelow);
        note.test("NOTE i (from 0)", "asking changes nothing", Promise10NoteTest::askingChangesNothing);
        note.test("of the world at work", "each has its own", Promise10NoteTest::ofTheWorldAtWork);
        note.test("NO_WORLD", "any i, also out of range: it is named before REFUSED", Promise10NoteTest::noWorld);
        note.test("not there", "an empty log", Promise10NoteTest::emptyLog);
        note.test("not there", "too small", Promise10NoteTest::tooSmall);
        note.test("not there", "too large: the one to be written next", Promise10NoteTest::nextIsTooLarge);
        note.test("not there", "too large: far beyond", Promise10NoteTest::farTooLarge);
        note.test("or not kept: REFUSED.", "63 is the last that is kept", Promise10NoteTest::lastThatIsKept);
        note.test("or not kept: REFUSED.", "64 is written, but not kept", Promise10NoteTest::firstThatIsNotKept);
        note.test("or not kept: REFUSED.", "all after the first 64", Promise10NoteTest::allThatAreNotKept);
        note.end();
    }

    private static void firstIsZero(Due due) {
        Run x = Run.inWorld(due);
        x.find(12, true);
        x.note(0).is(13);
    }

    private static void lastIsOneBelow(Due due) {
        Run x = Run.inWorld(due);
        x.find(14, true);
        x.count(2).is(3);
        x.note(2).is(17);
        x.note(3).is(SuiteLoader.REFUSED);
    }

    private static void askingChangesNothing(Due due) {
        Run x = Run.inWorld(due);
        x.find(2, true);
        for (int again = 0; again < 3; again++) {
            x.logIs(10, 1, 5, 2, 6, 3);
        }
    }

    private static void ofTheWorldAtWork(Due due) {
        Run x = Run.inWorlds(due, 2);
        x.find(12, true);
        x.enter(0);
        x.note(0).is(SuiteLoader.REFUSED);
        x.find(16, true);
        x.note(0).is(19);
        x.enter(1);
        x.note(0).is(13);
    }

    private static void noWorld(Due due) {
        Run x = new Run(due);
        x.note(0).is(SuiteLoader.NO_WORLD);
        x.note(63).is(SuiteLoader.NO_WORLD);
        x.note(64).is(SuiteLoader.NO_WORLD);
        for (int i : OutOfRange.TOO_SMALL) {
            x.note(i).is(SuiteLoader.NO_WORLD);
        }
        x.note(Integer.MAX_VALUE).is(SuiteLoader.NO_WORLD);
    }

    private static void emptyLog(Due due) {
        Run x = Run.inWorld(due);
        for (int i = 0; i <= 64; i++) {
            x.note(i).is(SuiteLoader.REFUSED);
        }
    }

    private static void tooSmall(Due due) {
        Run x = withNotes(due, 70);
        for (int i : OutOfRange.TOO_SMALL) {
            x.note(i).is(SuiteLoader.REFUSED);
        }
    }

    private static void nextIsTooLarge(Due due) {
        Run x = withNotes(due, 2);
        for (int next = 2; next < 64; next++) {
            x.note(next).is(SuiteLoader.REFUSED);
            x.keep(0, 0);
            x.note(next).is(20);
        }
    }

    private static void farTooLarge(Due due) {
        Run x = withNotes(due, 3);
        for (int i : OutOfRange.above(2)) {
            x.note(i).is(SuiteLoader.REFUSED);
        }
    }

    private static void lastThatIsKept(Due due) {
        Run x = withNotes(due, 63);
        x.note(63).is(SuiteLoader.REFUSED);
        x.find(12, true);
        x.count(2).is(64);
        x.note(63).is(13);
        x.find(16, true);
        x.note(63).is(13);
    }

    private static void firstThatIsNotKept(Due due) {
        Run x = withNotes(due, 64);
        x.note(64).is(SuiteLoader.REFUSED);
        x.find(16, true);
        x.count(2).is(65);
        x.note(64).is(SuiteLoader.REFUSED);
        x.note(0).is(10);
    }

    private static void allThatAreNotKept(Due due) {
        Run x = withNotes(due, 200);
        for (int i = 64; i <= 200; i++) {
            x.note(i).is(SuiteLoader.REFUSED);
        }
        for (int i : OutOfRange.above(200)) {
            x.note(i).is(SuiteLoader.REFUSED);
        }
    }

    /** Base's two, and one for each new Base. */
    private static Run withNotes(Due due, int notes) {
        Run x = Run.inWorld(due);
        x.find(0, true);
        for (int written = 2; written < notes; written++) {
            x.keep(0, 0);
        }
        x.count(2).is(notes);
        return x;
    }
}
