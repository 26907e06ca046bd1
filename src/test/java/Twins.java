/** Asks two objects the same and compares their answers: first what can be seen, then what only acts bring to light. */
final class Twins {
    private final Due due;
    private final Run x;
    private final Run y;

    private Twins(Due due, Run x, Run y) {
        this.due = due;
        this.x = x;
        this.y = y;
    }

    static void areSame(Due due, Run x, Run y) {
        Twins twins = new Twins(due, x, y);
        twins.countsAreSame();
        twins.logsAreSame();
        twins.slotsAreSame();
        twins.classesAreSame();
        x.enter(0);
        y.enter(0);
        twins.logsAreSame();
        twins.classesAreSame();
    }

    private void countsAreSame() {
        for (int what = 0; what < 3; what++) {
            same(x.count(what), y.count(what));
        }
    }

    private void logsAreSame() {
        same(x.count(2), y.count(2));
        for (int i = 0; i < 30; i++) {
            same(x.note(i), y.note(i));
        }
    }

    private void slotsAreSame() {
        for (int slot = 0; slot < 6; slot++) {
            for (int k = 0; k < 17; k++) {
                same(x.isOf(slot, k), y.isOf(slot, k));
            }
            same(x.alike(slot, slot), y.alike(slot, slot));
        }
    }

    /** Each class's value, whether it is initialised or has failed, and how the assertions are. */
    private void classesAreSame() {
        for (int number = 0; number < 30; number++) {
            same(x.act(number, 0), y.act(number, 0));
        }
        for (int k = 0; k < 17; k++) {
            same(x.find(k, true), y.find(k, true));
        }
        logsAreSame();
    }

    private void same(Run.Answer one, Run.Answer other) {
        due.is("the same answer" + one.call() + " (" + one.got() + ", or " + other.got() + ")", one.isSameAs(other), true);
    }
}
