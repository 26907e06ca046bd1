import java.util.Random;

/** Promises 1 to 11: long mixed runs of calls, each answer compared with that of real classes. */
public final class RealClassesTest {
    private static final int RUNS = 120;
    private static final int CALLS = 512;
    private static final Due due = new Due();

    public static void main(String[] args) throws Exception {
        for (int run = 0; run < RUNS; run++) {
            // The seed is the run's number: every run of the test makes the same calls.
            new RealClassesTest(run).compare();
        }
        due.end();
    }

    private final int run;
    private final Random random;
    private final SuiteLoader loader = new SuiteLoader();
    private final RealClasses real = new RealClasses();

    private RealClassesTest(int run) {
        this.run = run;
        this.random = new Random(run);
    }

    private void compare() throws Exception {
        for (int call = 0; call < CALLS; call++) {
            if (random.nextInt(40) == 0) {
                changeWorld(call);
            } else if (random.nextInt(3) == 0) {
                look(call);
            } else {
                work(call);
            }
        }
    }

    private void changeWorld(int call) throws Exception {
        if (random.nextBoolean()) {
            boolean on = random.nextBoolean();
            same(call, "begin(" + on + ")", loader.begin(on), real.begin(on));
        } else {
            int w = near(8);
            same(call, "enter(" + w + ")", loader.enter(w), real.enter(w));
        }
    }

    private void work(int call) throws Exception {
        int sort = random.nextInt(8);
        if (sort == 0) {
            boolean on = random.nextBoolean();
            same(call, "asserting(" + on + ")", loader.asserting(on), real.asserting(on));
        } else if (sort == 1) {
            int k = near(17);
            boolean on = random.nextBoolean();
            same(call, "find(" + k + ", " + on + ")", loader.find(k, on), real.find(k, on));
        } else if (sort == 2) {
            int slot = near(6);
            int which = near(6);
            same(call, "keep(" + slot + ", " + which + ")", loader.keep(slot, which), real.keep(slot, which));
        } else {
            int number = near(30);
            int a = argument();
            same(call, "act(" + number + ", " + a + ")", loader.act(number, a), real.act(number, a));
        }
    }

    private void look(int call) throws Exception {
        int sort = random.nextInt(4);
        if (sort == 0) {
            int slot = near(6);
            int k = near(17);
            same(call, "isOf(" + slot + ", " + k + ")", number(loader.isOf(slot, k)), number(real.isOf(slot, k)));
        } else if (sort == 1) {
            int a = near(6);
            int b = near(6);
            same(call, "alike(" + a + ", " + b + ")", number(loader.alike(a, b)), number(real.alike(a, b)));
        } else if (sort == 2) {
            // Asked of the real worlds, so that the loader itself hears 512 calls and no more.
            int i = random.nextBoolean() ? near(66) : Math.max(0, real.count(2)) - 1;
            same(call, "note(" + i + ")", loader.note(i), real.note(i));
        } else {
            int what = near(3);
            same(call, "count(" + what + ")", loader.count(what), real.count(what));
        }
    }

    /** From 0 to below the bound, and now and then outside. */
    private int near(int bound) {
        if (random.nextInt(15) != 0) {
            return random.nextInt(bound);
        }
        int[] outside = {-1, bound, Integer.MIN_VALUE, Integer.MAX_VALUE};
        return outside[random.nextInt(outside.length)];
    }

    private int argument() {
        return random.nextInt(4) == 0 ? random.nextInt() : random.nextInt(13) - 6;
    }

    private static int number(boolean answer) {
        return answer ? 1 : 0;
    }

    private void same(int call, String text, int got, int want) {
        due.is("run " + run + ", call " + call + ": " + text, got, want);
    }
}
