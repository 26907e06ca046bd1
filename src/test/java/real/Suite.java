package real;

import java.util.ArrayList;
import java.util.List;
import java.util.concurrent.CountDownLatch;

// The document's classes, written as real Java classes; WorldOfClasses defines them anew for every world.

/** Where the classes of one world write; the class itself is one of that world. */
final class Journal {
    static final List<Integer> NOTES = new ArrayList<>();

    private Journal() { }

    static int note(int n) {
        NOTES.add(n);
        return n;
    }
}

class Base {
    static int value = Journal.note(10);

    static {
        Journal.note(1);
    }

    final int tag;

    Base() {
        tag = Journal.note(20);
    }
}

class Middle extends Base implements Plain, Defaulted {
    static int middle = Journal.note(2) + Base.value;

    {
        Journal.note(21);
    }

    final int field = Journal.note(22);

    Middle() {
        super();
        Journal.note(23);
    }
}

class Leaf extends Middle {
    static final int CONSTANT = 70;
    static final String TEXT = "a text of twenty one";
    static final Integer BOXED = Journal.note(6);

    static {
        Journal.note(3);
    }
}

interface Plain {
    int A = Journal.note(4);
}

interface Extended extends Plain {
    int E = Journal.note(15);

    default int extended() {
        return 0;
    }
}

interface Defaulted {
    int B = Journal.note(5);

    default int defaulted() {
        return 0;
    }
}

class Quiet implements Plain {
    private static int quiet = Journal.note(11);

    int quiet() {
        return quiet;
    }
}

class Loud implements Extended {
    static int loud = Journal.note(12);
}

class Bad {
    static final int CONSTANT = 71;
    static int n = Journal.note(7);

    static {
        if (n == 7) {
            throw new IllegalStateException();
        }
    }
}

class Worse extends Bad {
    static int w = Journal.note(8);
}

class First {
    static int x = Second.y + Journal.note(30);
}

class Second {
    static int y = First.x + Journal.note(40);
}

class Holder {
    static {
        Journal.note(13);
    }

    static Lazy lazy() {
        return Lazy.INSTANCE;
    }
}

class Lazy extends Base {
    static final Lazy INSTANCE = new Lazy();

    static {
        Journal.note(14);
    }
}

enum Grade {
    LOW(3), HIGH(9) {
        @Override
        int points() {
            return super.points() * 2;
        }
    };

    static final int COUNT = Journal.note(17);
    private final int points;

    Grade(int points) {
        this.points = points;
        Journal.note(16);
    }

    int points() {
        return points;
    }
}

class Checked {
    static {
        Journal.note(18);
    }

    static int check(int a) {
        assert a > 0;
        return a + 1000;
    }
}

class Slow {
    private static int made = Journal.note(19);

    static synchronized void grow() {
        made++;
    }

    static synchronized int made() {
        return made;
    }
}

/** The acts, as Java instructions. */
public final class Suite implements Stage {
    public Suite() { }

    @Override
    public List<Integer> notes() {
        return Journal.NOTES;
    }

    @Override
    public Object make(int which) {
        return switch (which) {
            case 0 -> new Base();
            case 1 -> new Middle();
            case 2 -> new Leaf();
            case 3 -> new Quiet();
            case 4 -> new Loud();
            default -> Grade.HIGH;
        };
    }

    @Override
    public int act(int number, int a) throws Exception {
        return number < 15 ? instruction(number, a) : laterInstruction(number, a);
    }

    private static int instruction(int number, int a) {
        Object nothing = null;
        return switch (number) {
            case 0 -> Base.value += a;
            case 1 -> Leaf.value;
            case 2 -> Middle.middle = a;
            case 3 -> Leaf.CONSTANT;
            case 4 -> Leaf.BOXED;
            case 5 -> new Leaf[2].length + new Bad[3][1].length;
            case 6 -> nothing instanceof Leaf ? 1 : 2;
            case 7 -> Plain.A;
            case 8 -> Quiet.A;
            case 9 -> Loud.E + Loud.A;
            case 10 -> new Loud() != null ? 1 : 0;
            case 11 -> new Quiet().quiet();
            case 12 -> Bad.n;
            case 13 -> Bad.CONSTANT;
            default -> Worse.w;
        };
    }

    private static int laterInstruction(int number, int a) throws Exception {
        return switch (number) {
            case 15 -> new Worse() != null ? 0 : 1;
            case 16 -> First.x;
            case 17 -> Second.y;
            case 18 -> Holder.lazy().tag;
            case 19 -> Grade.values()[Math.floorMod(a, 2)].points() + Grade.COUNT;
            case 20 -> (a % 2 == 0 ? Grade.LOW : Grade.HIGH).ordinal();
            case 21 -> Checked.check(a);
            case 22 -> askSlow(a % 2 == 0 ? 2 : 3);
            case 23 -> Leaf.TEXT.length();
            case 24 -> Middle.middle;
            case 25 -> Class.forName("real.Second", a % 2 != 0, Suite.class.getClassLoader()) != null ? 18 : 0;
            case 26 -> Leaf.class.getDeclaredConstructor().newInstance() != null ? 1 : 0;
            case 27 -> Middle.class.getDeclaredField("middle").getInt(null);
            case 28 -> Defaulted.B;
            default -> Grade.valueOf("MIDDLING").ordinal();
        };
    }

    private static int askSlow(int threads) throws InterruptedException {
        CountDownLatch gate = new CountDownLatch(1);
        Thread[] asking = new Thread[threads];
        for (int i = 0; i < threads; i++) {
            asking[i] = new Thread(() -> {
                await(gate);
                Slow.grow();
            });
            asking[i].start();
        }
        gate.countDown();
        for (Thread thread : asking) {
            thread.join();
        }
        return Slow.made();
    }

    private static void await(CountDownLatch gate) {
        try {
            gate.await();
        } catch (InterruptedException e) {
            throw new IllegalStateException(e);
        }
    }
}
