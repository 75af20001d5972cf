/**
 * Long runs of calls with numbers good and bad. Nothing but the four exceptions comes; a kernel call that
 * throws changes nothing; no quota is below its use; containers and segments have no STAR; crash brings back
 * what snapshot kept. (The looks between the calls are more than 512 in all; the program sets no such end.)
 */
public final class AnyCallsTest {
    private static final Checks c = new Checks();
    private static final int RUNS = 100;
    private static final int CALLS = 300;
    private static final int KERNEL_CALLS = 16;
    private static final int LIBRARY_CALLS = 4;

    private long seed;

    private AnyCallsTest(long seed) {
        this.seed = seed;
    }

    public static void main(String[] args) {
        for (int i = 0; i < RUNS; i++) {
            new AnyCallsTest(i).run();
        }
        c.end();
    }

    private int below(int bound) {
        seed = seed * 6364136223846793005L + 1442695040888963407L;
        return (int) ((seed >>> 33) % bound);
    }

    private int wild() {
        int[] numbers = {-1, 0, 8, 9, 60, 61, 201, -201, Integer.MAX_VALUE, Integer.MIN_VALUE};
        return numbers[below(numbers.length)];
    }

    private int upTo(int most) {
        return below(40) == 0 ? wild() : below(most + 1);
    }

    /** A thread most times, so that runs get somewhere. */
    private int thread(LabelKernel k) {
        for (int tries = 0; tries < 20; tries++) {
            int o = 1 + below(25);
            if (Checks.outcome(() -> k.object(o, 0)).equals("3")) {
                return o;
            }
        }
        return upTo(25);
    }

    private int object(LabelKernel k) {
        for (int tries = 0; tries < 5; tries++) {
            int o = 1 + below(40);
            if (!Checks.outcome(() -> k.object(o, 0)).startsWith("java")) {
                return o;
            }
        }
        return upTo(61);
    }

    private int place(LabelKernel k, int o) {
        String place = Checks.outcome(() -> k.object(o, 4));
        return place.startsWith("java") || below(20) == 0 ? upTo(20) : Integer.parseInt(place);
    }

    private int label(LabelKernel k) {
        return below(60) == 0 ? wild() : below(3) == 0 ? below(2) : below(k.count(1));
    }

    private void run() {
        LabelKernel k = new LabelKernel();
        String kept = Dump.of(k);
        for (int i = 0; i < CALLS; i++) {
            String before = Dump.of(k);
            int which = below(KERNEL_CALLS + LIBRARY_CALLS + 1);
            if (which == KERNEL_CALLS + LIBRARY_CALLS) {
                kept = keepOrCrash(k, kept);
            } else {
                String outcome = Checks.outcome(call(k, which));
                judge(outcome);
                if (which < KERNEL_CALLS && outcome.startsWith("java")) {
                    c.due(before, Dump.of(k));
                }
            }
            holds(k);
        }
    }

    private String keepOrCrash(LabelKernel k, String kept) {
        if (below(4) != 0) {
            c.due(k.count(0), () -> k.snapshot());
            return Dump.of(k);
        }
        k.crash();
        c.due(kept, Dump.of(k));
        return kept;
    }

    private void judge(String outcome) {
        boolean known = !outcome.startsWith("java")
                || outcome.equals(Checks.BAD.getName()) || outcome.equals(Checks.MISSING.getName())
                || outcome.equals(Checks.FORBIDDEN.getName()) || outcome.equals(Checks.FULL.getName());
        c.due(true, known);
    }

    private Checks.Call call(LabelKernel k, int which) {
        int t = thread(k);
        int o = object(k);
        int d = place(k, o);
        int box = below(2) == 0 ? 1 : object(k);
        int label = label(k);
        int other = label(k);
        int small = upTo(8);
        int user = upTo(3);
        int v = below(50);
        switch (which) {
            case 0: return () -> k.label(label, small, v % 6);
            case 1: return () -> k.level(label, small);
            case 2: return () -> k.fits(label, other, small > 3) ? 1 : 0;
            case 3: return () -> v < 10 ? k.category(t) : 0;
            case 4: return () -> k.container(t, box, label, v);
            case 5: return () -> k.segment(t, box, label, small);
            case 6: return () -> k.gate(t, box, label, other, v);
            case 7: return () -> k.thread(t, box, label, other);
            case 8: return () -> k.read(t, d, o, small);
            case 9: return () -> k.write(t, d, o, small, v);
            case 10: return () -> k.move(t, d, o, v - 25);
            case 11: return () -> o != 2 && v < 20 ? k.drop(t, d, o) : 0;
            case 12: return () -> k.become(t, label);
            case 13: return () -> k.lower(t, other);
            case 14: return () -> k.enter(t, d, o, label, other);
            case 15: return () -> k.in(box, small);
            case 16: return () -> k.user(t, user, v % 2);
            case 17: return () -> k.login(t, user, v % 2);
            case 18: return () -> k.file(t, user, v % 4, small);
            default: return () -> k.access(t, user, v % 4, small, v % 3 == 0, v);
        }
    }

    private void holds(LabelKernel k) {
        int there = 0;
        for (int o = 1; o <= 60; o++) {
            int number = o;
            if (!Checks.outcome(() -> k.object(number, 0)).startsWith("java")) {
                there++;
                holds(k, o);
            }
        }
        int found = there;
        c.due(found, () -> k.count(0));
        c.due(true, k.count(1) <= 60 && k.count(2) <= 8 && k.count(3) <= 4);
    }

    private void holds(LabelKernel k, int o) {
        c.due(true, k.object(o, 2) >= k.object(o, 3));
        int starless = k.object(o, 0) < 2 ? k.object(o, 1) : k.object(o, 5);
        for (int category = 0; category < 8; category++) {
            c.due(true, k.level(starless, category) != LabelKernel.STAR);
        }
        boolean thread = k.object(o, 0) == 3;
        c.due(true, !thread || k.fits(k.object(o, 1), k.object(o, 5), false));
    }
}
