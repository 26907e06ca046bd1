import java.util.ArrayList;
import java.util.List;

/** A run of calls on a new object; a wrong answer is told with the calls that led to it. */
final class Run {
    private static final int MOST_CALLS = 512;
    private static final int MOST_TOLD = 12;

    private final Due due;
    private final SuiteLoader loader = new SuiteLoader();
    private final List<String> calls = new ArrayList<>();

    Run(Due due) {
        this.due = due;
    }

    /** A run whose world 0 is at work, its assertions off. */
    static Run inWorld(Due due) {
        Run run = new Run(due);
        run.begin(false);
        return run;
    }

    static Run inWorlds(Due due, int worlds) {
        Run run = new Run(due);
        for (int w = 0; w < worlds; w++) {
            run.begin(false);
        }
        return run;
    }

    Answer begin(boolean asserting) {
        return answered("begin(" + asserting + ")", loader.begin(asserting));
    }

    Answer enter(int w) {
        return answered("enter(" + w + ")", loader.enter(w));
    }

    Answer asserting(boolean on) {
        return answered("asserting(" + on + ")", loader.asserting(on));
    }

    Answer act(int number, int argument) {
        return answered("act(" + number + ", " + argument + ")", loader.act(number, argument));
    }

    Answer find(int k, boolean initialise) {
        return answered("find(" + k + ", " + initialise + ")", loader.find(k, initialise));
    }

    Answer keep(int slot, int which) {
        return answered("keep(" + slot + ", " + which + ")", loader.keep(slot, which));
    }

    Answer isOf(int slot, int k) {
        return answered("isOf(" + slot + ", " + k + ")", loader.isOf(slot, k));
    }

    Answer alike(int a, int b) {
        return answered("alike(" + a + ", " + b + ")", loader.alike(a, b));
    }

    Answer note(int i) {
        return answered("note(" + i + ")", loader.note(i));
    }

    Answer count(int what) {
        return answered("count(" + what + ")", loader.count(what));
    }

    /** The whole log of the world at work; for logs that are not longer than what is kept. */
    void logIs(int... want) {
        count(2).is(want.length);
        for (int i = 0; i < want.length; i++) {
            note(i).is(want[i]);
        }
        note(want.length).is(SuiteLoader.REFUSED);
    }

    private Answer answered(String call, Object got) {
        calls.add(call);
        if (calls.size() > MOST_CALLS) {
            due.isWrong("the test is wrong: nothing is promised after " + MOST_CALLS + " calls");
        }
        return new Answer(due, told(), got);
    }

    private String told() {
        int last = calls.size() - 1;
        int first = Math.max(0, last - MOST_TOLD);
        if (last == 0) {
            return "    " + calls.get(last);
        }
        String gap = first == 0 ? "" : ".. " + first + " calls more .., ";
        return "    after " + gap + String.join(", ", calls.subList(first, last)) + ": " + calls.get(last);
    }

    /** What a call answered; is(..) says what is due. */
    record Answer(Due due, String call, Object got) {
        void is(int want) {
            if (got instanceof Integer number) {
                due.is(call, number, want);
            } else {
                due.isWrong(call + " answered no number");
            }
        }

        void is(boolean want) {
            if (got instanceof Boolean answer) {
                due.is(call, answer, want);
            } else {
                due.isWrong(call + " answered no boolean");
            }
        }

        boolean isSameAs(Answer other) {
            return got.equals(other.got);
        }
    }
}
