import java.util.ArrayList;
import java.util.List;
import real.WorldOfClasses;

/** The document's face over real classes in real class loaders: the machine itself says what is due. */
final class RealClasses {
    private final List<WorldOfClasses> worlds = new ArrayList<>();
    private final Object[] slots = new Object[6];
    private int atWork = -1;

    int begin(boolean asserting) throws ReflectiveOperationException {
        if (worlds.size() == 8) {
            return SuiteLoader.REFUSED;
        }
        worlds.add(new WorldOfClasses(asserting));
        atWork = worlds.size() - 1;
        return atWork;
    }

    int enter(int w) {
        if (w < 0 || w >= worlds.size()) {
            return SuiteLoader.REFUSED;
        }
        atWork = w;
        return SuiteLoader.DONE;
    }

    int asserting(boolean on) {
        if (atWork < 0) {
            return SuiteLoader.NO_WORLD;
        }
        world().switchAssertions(on);
        return SuiteLoader.DONE;
    }

    int act(int number, int argument) throws Exception {
        if (number < 0 || number > 29) {
            return SuiteLoader.REFUSED;
        }
        if (atWork < 0) {
            return SuiteLoader.NO_WORLD;
        }
        try {
            return world().stage.act(number, argument);
        } catch (ExceptionInInitializerError e) {
            return SuiteLoader.FAILED;
        } catch (NoClassDefFoundError e) {
            return SuiteLoader.GONE;
        } catch (AssertionError e) {
            return SuiteLoader.ASSERTED;
        } catch (IllegalArgumentException e) {
            return SuiteLoader.CASE;
        }
    }

    int find(int k, boolean initialise) throws ClassNotFoundException {
        if (k < 0 || k > 16) {
            return SuiteLoader.REFUSED;
        }
        if (atWork < 0) {
            return SuiteLoader.NO_WORLD;
        }
        try {
            world().lookUp(k, initialise);
            return SuiteLoader.DONE;
        } catch (ExceptionInInitializerError e) {
            return SuiteLoader.FAILED;
        } catch (NoClassDefFoundError e) {
            return SuiteLoader.GONE;
        }
    }

    int keep(int slot, int which) {
        if (slot < 0 || slot > 5 || which < 0 || which > 5) {
            return SuiteLoader.REFUSED;
        }
        if (atWork < 0) {
            return SuiteLoader.NO_WORLD;
        }
        slots[slot] = world().stage.make(which);
        return SuiteLoader.DONE;
    }

    boolean isOf(int slot, int k) throws ClassNotFoundException {
        if (slot < 0 || slot > 5 || k < 0 || k > 16 || atWork < 0) {
            return false;
        }
        return world().lookUp(k, false).isInstance(slots[slot]);
    }

    boolean alike(int a, int b) {
        if (a < 0 || a > 5 || b < 0 || b > 5 || slots[a] == null || slots[b] == null) {
            return false;
        }
        return slots[a].getClass() == slots[b].getClass();
    }

    int note(int i) {
        if (atWork < 0) {
            return SuiteLoader.NO_WORLD;
        }
        List<Integer> notes = world().stage.notes();
        return i < 0 || i >= notes.size() || i >= 64 ? SuiteLoader.REFUSED : notes.get(i);
    }

    int count(int what) {
        if (what == 0) {
            return worlds.size();
        }
        if (what < 0 || what > 2) {
            return SuiteLoader.REFUSED;
        }
        if (atWork < 0) {
            return SuiteLoader.NO_WORLD;
        }
        return what == 1 ? atWork : world().stage.notes().size();
    }

    private WorldOfClasses world() {
        return worlds.get(atWork);
    }
}
