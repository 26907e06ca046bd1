/** Worlds of classes whose initialisers write down when they run. What each call promises: DOC.md. */
public final class SuiteLoader {
    public static final int DONE = 0;
    public static final int REFUSED = -1;
    public static final int NO_WORLD = -2;
    public static final int FAILED = -101;
    public static final int GONE = -102;
    public static final int ASSERTED = -103;
    public static final int CASE = -104;

    private static final int MOST_WORLDS = 8;
    private static final int SLOTS = 6;
    private static final int NONE = -1;

    /** The class of the thing that a slot gets, by the number that asks for it. */
    private static final int[] KEPT =
        {Kinds.BASE, Kinds.MIDDLE, Kinds.LEAF, Kinds.QUIET, Kinds.LOUD, Kinds.GRADE};

    private final World[] worlds = new World[MOST_WORLDS];
    private int begun;
    private World atWork;

    // A thing is told apart by its class and its world's number alone, so no slot needs an object.
    private final int[] slotKinds = new int[SLOTS];
    private final int[] slotWorlds = new int[SLOTS];

    public SuiteLoader() {
        for (int slot = 0; slot < SLOTS; slot++) {
            slotKinds[slot] = NONE;
            slotWorlds[slot] = NONE;
        }
    }

    public int begin(boolean asserting) {
        if (begun >= MOST_WORLDS) {
            return REFUSED;
        }
        atWork = new World(begun, asserting);
        worlds[begun] = atWork;
        begun++;
        return atWork.number;
    }

    public int enter(int w) {
        if (w < 0 || w >= begun) {
            return REFUSED;
        }
        atWork = worlds[w];
        return DONE;
    }

    public int asserting(boolean on) {
        if (atWork == null) {
            return NO_WORLD;
        }
        atWork.switched = on;
        return DONE;
    }

    public int act(int number, int argument) {
        if (!Acts.isThere(number)) {
            return REFUSED;
        }
        if (atWork == null) {
            return NO_WORLD;
        }
        return Acts.outcome(atWork, number, argument);
    }

    public int find(int k, boolean initialise) {
        if (!Kinds.isThere(k)) {
            return REFUSED;
        }
        if (atWork == null) {
            return NO_WORLD;
        }
        return initialise ? atWork.initialise(k) : DONE;
    }

    public int keep(int slot, int which) {
        if (!isSlot(slot) || which < 0 || which >= KEPT.length) {
            return REFUSED;
        }
        if (atWork == null) {
            return NO_WORLD;
        }
        int kind = KEPT[which];
        // No class that can be kept has failing deeds, its own or from above: the outcome is always DONE.
        atWork.initialise(kind);
        atWork.construct(kind);
        slotKinds[slot] = kind;
        slotWorlds[slot] = atWork.number;
        return DONE;
    }

    public boolean isOf(int slot, int k) {
        if (!isFilled(slot) || !Kinds.isThere(k) || atWork == null) {
            return false;
        }
        return slotWorlds[slot] == atWork.number && Kinds.isWithin(slotKinds[slot], k);
    }

    public boolean alike(int a, int b) {
        if (!isFilled(a) || !isFilled(b)) {
            return false;
        }
        return slotKinds[a] == slotKinds[b] && slotWorlds[a] == slotWorlds[b];
    }

    public int note(int i) {
        if (atWork == null) {
            return NO_WORLD;
        }
        return atWork.isKept(i) ? atWork.notes[i] : REFUSED;
    }

    public int count(int what) {
        if (what == 0) {
            return begun;
        }
        if (what != 1 && what != 2) {
            return REFUSED;
        }
        if (atWork == null) {
            return NO_WORLD;
        }
        return what == 1 ? atWork.number : atWork.written;
    }

    private static boolean isSlot(int slot) {
        return slot >= 0 && slot < SLOTS;
    }

    private boolean isFilled(int slot) {
        return isSlot(slot) && slotKinds[slot] != NONE;
    }

    /** The seventeen classes as they stand in every world: what is up from them, which interfaces they have. */
    private static final class Kinds {
        static final int BASE = 0;
        static final int MIDDLE = 1;
        static final int LEAF = 2;
        static final int PLAIN = 3;
        static final int EXTENDED = 4;
        static final int DEFAULTED = 5;
        static final int QUIET = 6;
        static final int LOUD = 7;
        static final int BAD = 8;
        static final int WORSE = 9;
        static final int FIRST = 10;
        static final int SECOND = 11;
        static final int HOLDER = 12;
        static final int LAZY = 13;
        static final int GRADE = 14;
        static final int CHECKED = 15;
        static final int SLOW = 16;
        static final int ALL = 17;
        /** No way from a class to those above it, or to those that it asks, passes one class thrice. */
        static final int DEEPEST = 2 * ALL;

        /** The class up, by class. */
        private static final int[] UP = {
            NONE, BASE, MIDDLE, NONE, NONE, NONE, NONE, NONE, NONE,
            BAD, NONE, NONE, NONE, BASE, NONE, NONE, NONE};

        // Read side by side: OWNERS[i] has the interface OWNED[i]; an owner's own are in their order.
        static final int[] OWNERS = {MIDDLE, MIDDLE, EXTENDED, QUIET, LOUD};
        static final int[] OWNED = {PLAIN, DEFAULTED, PLAIN, PLAIN, EXTENDED};

        static boolean isThere(int k) {
            return k >= 0 && k < ALL;
        }

        static int up(int k) {
            return isThere(k) ? UP[k] : NONE;
        }

        static boolean isInterface(int k) {
            return k == PLAIN || k == EXTENDED || k == DEFAULTED;
        }

        /** Whether it is an interface with a method that has a body. */
        static boolean hasBody(int k) {
            return k == EXTENDED || k == DEFAULTED;
        }

        /** Whether a thing of class k is one of the wider class or interface, too. */
        static boolean isWithin(int k, int wider) {
            return reaches(k, wider, 0);
        }

        private static boolean reaches(int k, int wider, int depth) {
            if (k == NONE || depth > DEEPEST) {
                return false;
            }
            if (k == wider || reaches(up(k), wider, depth + 1)) {
                return true;
            }
            for (int i = 0; i < OWNERS.length; i++) {
                if (OWNERS[i] == k && reaches(OWNED[i], wider, depth + 1)) {
                    return true;
                }
            }
            return false;
        }
    }

    /** One world: how far each of its classes is, the value that each holds, and what they have written. */
    private static final class World {
        private static final int MOST_KEPT = 64;

        private static final int UNTOUCHED = 0;
        private static final int UNDER_WAY = 1;
        private static final int READY = 2;
        private static final int BROKEN = 3;

        final int number;
        final int[] notes = new int[MOST_KEPT];
        /** All that were written, kept or not. */
        int written;
        final int[] values = new int[Kinds.ALL];
        private final int[] states = new int[Kinds.ALL];
        /** How the assertions of Checked are switched; settled is what Checked saw when it was initialised. */
        boolean switched;
        boolean settled;

        World(int number, boolean switched) {
            this.number = number;
            this.switched = switched;
        }

        /** DONE, FAILED or GONE; for NONE there is nothing to do. */
        int initialise(int k) {
            return initialiseAt(k, 0);
        }

        private int initialiseAt(int k, int depth) {
            // Every level that stands open keeps one more class under way, so no run comes deeper.
            if (depth > Kinds.DEEPEST) {
                return REFUSED;
            }
            if (!Kinds.isThere(k)) {
                return DONE;
            }
            if (states[k] == BROKEN) {
                return GONE;
            }
            if (states[k] != UNTOUCHED) {
                return DONE;
            }
            states[k] = UNDER_WAY;
            int outcome = initialiseAbove(k, depth + 1);
            if (outcome == DONE) {
                outcome = runDeeds(k, depth + 1);
            }
            states[k] = outcome == DONE ? READY : BROKEN;
            return outcome;
        }

        /** What is above an interface stays as it is: only a class draws others with it. */
        private int initialiseAbove(int k, int depth) {
            if (Kinds.isInterface(k)) {
                return DONE;
            }
            int outcome = initialiseAt(Kinds.up(k), depth);
            if (outcome == DONE) {
                initialiseInterfaces(k, depth);
            }
            return outcome;
        }

        /** No interface has failing deeds, so there is no outcome to tell. */
        private void initialiseInterfaces(int k, int depth) {
            if (depth > Kinds.DEEPEST) {
                return;
            }
            for (int i = 0; i < Kinds.OWNERS.length; i++) {
                if (Kinds.OWNERS[i] == k) {
                    initialiseInterfaces(Kinds.OWNED[i], depth + 1);
                    if (Kinds.hasBody(Kinds.OWNED[i])) {
                        initialiseAt(Kinds.OWNED[i], depth + 1);
                    }
                }
            }
        }

        private int runDeeds(int k, int depth) {
            switch (k) {
                case Kinds.BASE:
                    values[k] = write(10);
                    write(1);
                    return DONE;
                case Kinds.MIDDLE:
                    values[k] = write(2) + ask(Kinds.BASE, depth);
                    return DONE;
                case Kinds.LEAF:
                    values[k] = write(6);
                    write(3);
                    return DONE;
                case Kinds.BAD:
                    values[k] = write(7);
                    return FAILED;
                case Kinds.FIRST:
                    values[k] = ask(Kinds.SECOND, depth) + write(30);
                    return DONE;
                case Kinds.SECOND:
                    values[k] = ask(Kinds.FIRST, depth) + write(40);
                    return DONE;
                case Kinds.LAZY:
                    construct(k);
                    write(14);
                    return DONE;
                case Kinds.GRADE:
                    write(16);
                    write(16);
                    values[k] = write(17);
                    return DONE;
                case Kinds.CHECKED:
                    settled = switched;
                    write(18);
                    return DONE;
                default:
                    values[k] = write(onlyNote(k));
                    return DONE;
            }
        }

        /** The note of a class that writes but one, which is its value. */
        private static int onlyNote(int k) {
            switch (k) {
                case Kinds.PLAIN:
                    return 4;
                case Kinds.EXTENDED:
                    return 15;
                case Kinds.DEFAULTED:
                    return 5;
                case Kinds.QUIET:
                    return 11;
                case Kinds.LOUD:
                    return 12;
                case Kinds.WORSE:
                    return 8;
                case Kinds.HOLDER:
                    return 13;
                default: // Slow, the one that is left
                    return 19;
            }
        }

        /** For deeds that ask Base, First or Second: these never fail, so the value is all there is to tell. */
        private int ask(int k, int depth) {
            initialiseAt(k, depth);
            return values[k];
        }

        /** What a new thing writes; its class has been initialised before, or is under way. */
        void construct(int k) {
            boolean isMiddle = k == Kinds.MIDDLE || k == Kinds.LEAF;
            if (isMiddle || k == Kinds.BASE || k == Kinds.LAZY) {
                write(20);
            }
            if (isMiddle) {
                write(21);
                write(22);
                write(23);
            }
        }

        /** Answers the note, which is the value of what wrote it. */
        private int write(int n) {
            if (written < MOST_KEPT) {
                notes[written] = n;
            }
            written++;
            return n;
        }

        boolean isKept(int i) {
            return i >= 0 && i < written && i < MOST_KEPT;
        }
    }

    /** The thirty acts: which class each asks, and what it tells once that is initialised. */
    private static final class Acts {
        /** By act: the class that it asks first. */
        private static final int[] ASKED = {
            Kinds.BASE, Kinds.BASE, Kinds.MIDDLE, NONE, Kinds.LEAF,
            NONE, NONE, Kinds.PLAIN, Kinds.PLAIN, Kinds.EXTENDED,
            Kinds.LOUD, Kinds.QUIET, Kinds.BAD, NONE, Kinds.WORSE,
            Kinds.WORSE, Kinds.FIRST, Kinds.SECOND, Kinds.HOLDER, Kinds.GRADE,
            Kinds.GRADE, Kinds.CHECKED, Kinds.SLOW, NONE, Kinds.MIDDLE,
            Kinds.SECOND, Kinds.LEAF, Kinds.MIDDLE, Kinds.DEFAULTED, Kinds.GRADE};

        static boolean isThere(int number) {
            return number >= 0 && number < ASKED.length;
        }

        static int outcome(World world, int number, int argument) {
            int outcome = world.initialise(askedFirst(number, argument));
            if (outcome == DONE) {
                outcome = world.initialise(askedThen(number));
            }
            return outcome == DONE ? told(world, number, argument) : outcome;
        }

        private static int askedFirst(int number, int argument) {
            boolean looksUpOnly = number == 25 && !isOdd(argument);
            return looksUpOnly ? NONE : ASKED[number];
        }

        private static int askedThen(int number) {
            switch (number) {
                case 9:
                    return Kinds.PLAIN;
                case 18:
                    return Kinds.LAZY;
                default:
                    return NONE;
            }
        }

        /** The acts that are not named here tell the value of the class that they ask. */
        private static int told(World world, int number, int argument) {
            int[] values = world.values;
            switch (number) {
                case 0:
                    values[Kinds.BASE] += argument;
                    return values[Kinds.BASE];
                case 2:
                    values[Kinds.MIDDLE] = argument;
                    return argument;
                case 3:
                    return 70;
                case 5:
                    return 5;
                case 6:
                    return 2;
                case 9:
                    return values[Kinds.EXTENDED] + values[Kinds.PLAIN];
                case 10:
                    return 1;
                case 13:
                    return 71;
                case 15:
                    return 0;
                case 18:
                    return 20;
                case 19:
                    return (isOdd(argument) ? 18 : 3) + values[Kinds.GRADE];
                case 20:
                    return isOdd(argument) ? 1 : 0;
                case 21:
                    return world.settled && argument <= 0 ? ASSERTED : argument + 1000;
                case 22:
                    values[Kinds.SLOW] += isOdd(argument) ? 3 : 2;
                    return values[Kinds.SLOW];
                case 23:
                    return 20;
                case 25:
                    return 18;
                case 26:
                    world.construct(Kinds.LEAF);
                    return 1;
                case 29:
                    return CASE;
                default:
                    return values[ASKED[number]];
            }
        }

        /** By the low bit: below 0, a remainder would be -1. */
        private static boolean isOdd(int argument) {
            return (argument & 1) == 1;
        }
    }
}
