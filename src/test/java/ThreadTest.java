/** Promises 14 to 16: become, lower, enter. */
public final class ThreadTest {
    private static final Checks c = new Checks();

    public static void main(String[] args) {
        becoming();
        lowering();
        numbersAndKinds();
        entering();
        enteringLooksAtTheGuardAndTheContainer();
        enteringLooksAtTheLabel();
        enteringLooksAtTheClearance();
        enteringAGateThatIsAboveTheThread();
        enteringLooksAtObjects();
        c.end();
    }

    private static void becoming() {
        LabelKernel k = new LabelKernel();
        int up = k.label(0, 3, 2);
        int top = k.label(0, 3, 3);
        int down = k.label(0, 3, 0);
        int star = k.label(0, 3, 4);
        c.refused(Checks.FORBIDDEN, () -> k.become(2, top));
        c.refused(Checks.FORBIDDEN, () -> k.become(2, down));
        c.refused(Checks.FORBIDDEN, () -> k.become(2, star));
        c.due(0, () -> k.object(2, 1));
        c.due(0, () -> k.become(2, 0));
        c.due(0, () -> k.become(2, up));
        c.due(up, () -> k.object(2, 1));
        c.due(1, () -> k.object(2, 5));
        c.refused(Checks.FORBIDDEN, () -> k.become(2, 0));
        // An owner may take any level, but not own again.
        k.category(2);
        int owned = k.object(2, 1);
        int more = k.label(owned, 1, 4);
        int one = k.label(owned, 0, 0);
        c.refused(Checks.FORBIDDEN, () -> k.become(2, more));
        c.due(0, () -> k.become(2, owned));
        c.due(0, () -> k.become(2, one));
        c.refused(Checks.FORBIDDEN, () -> k.become(2, owned));
        c.due(0, () -> k.become(2, k.label(one, 0, 3)));
    }

    private static void lowering() {
        LabelKernel k = new LabelKernel();
        int zero = k.label(1, 5, 0);
        int one = k.label(1, 5, 1);
        int three = k.label(1, 5, 3);
        c.refused(Checks.FORBIDDEN, () -> k.lower(2, three));
        c.refused(Checks.FORBIDDEN, () -> k.lower(2, zero));
        c.due(1, () -> k.object(2, 5));
        c.due(0, () -> k.lower(2, 1));
        c.due(0, () -> k.lower(2, one));
        c.due(one, () -> k.object(2, 5));
        c.due(0, () -> k.object(2, 1));
        c.refused(Checks.FORBIDDEN, () -> k.lower(2, 1));
        c.due(0, () -> k.lower(2, 0));
        k.category(2);
        c.due(0, () -> k.lower(2, k.label(0, 0, 0)));
    }

    private static void numbersAndKinds() {
        LabelKernel k = new LabelKernel();
        int star = k.label(0, 0, 4);
        int[] bad = {-1, 3, 60, Integer.MAX_VALUE, Integer.MIN_VALUE};
        for (int label : bad) {
            c.refused(Checks.BAD, () -> k.become(99, label));
            c.refused(Checks.BAD, () -> k.lower(99, label));
            c.refused(Checks.BAD, () -> k.enter(99, 99, 99, label, 0));
            c.refused(Checks.BAD, () -> k.enter(99, 99, 99, 0, label));
        }
        c.refused(Checks.BAD, () -> k.lower(99, star));
        c.refused(Checks.BAD, () -> k.enter(99, 99, 99, 0, star));
        c.refused(Checks.MISSING, () -> k.become(99, star));
        c.refused(Checks.MISSING, () -> k.enter(99, 99, 99, star, 0));
        c.refused(Checks.MISSING, () -> k.lower(0, 0));
        c.refused(Checks.BAD, () -> k.become(1, 0));
        c.refused(Checks.BAD, () -> k.lower(1, 0));
    }

    private static void entering() {
        LabelKernel k = new LabelKernel();
        k.category(2);
        int own = k.object(2, 1);
        int clear = k.object(2, 5);
        int g = k.gate(2, 1, own, 1, Integer.MIN_VALUE);
        int plain = k.thread(2, 1, 0, 0);
        c.due(Integer.MIN_VALUE, () -> k.enter(plain, 1, g, own, clear));
        c.due(own, () -> k.object(plain, 1));
        c.due(clear, () -> k.object(plain, 5));
        c.due(own, () -> k.object(g, 1));
        c.due(clear, () -> k.object(g, 5));
        c.due(4, () -> k.count(0));
        // An owner may enter and come out with less, and in again.
        c.due(Integer.MIN_VALUE, () -> k.enter(plain, 1, g, 0, 0));
        c.due(0, () -> k.object(plain, 1));
        c.due(0, () -> k.object(plain, 5));
        c.due(Integer.MIN_VALUE, () -> k.enter(plain, 1, g, own, 0));
    }

    private static void enteringLooksAtTheGuardAndTheContainer() {
        LabelKernel k = new LabelKernel();
        k.category(2);
        int own = k.object(2, 1);
        int clear = k.object(2, 5);
        int up = k.label(0, 1, 2);
        int upOwning = k.label(own, 1, 2);
        int strict = k.gate(2, 1, own, 0, 7);
        int stricter = k.gate(2, 1, own, k.label(0, 0, 0), 8);
        int hidden = k.container(2, 1, k.label(0, 0, 3), 20);
        int inHidden = k.gate(2, hidden, own, 1, 9);
        int plain = k.thread(2, 1, 0, 1);
        int raised = k.thread(2, 1, up, 1);
        c.refused(Checks.FORBIDDEN, () -> k.enter(raised, 1, strict, upOwning, clear));
        c.refused(Checks.FORBIDDEN, () -> k.enter(plain, 1, stricter, own, clear));
        c.refused(Checks.FORBIDDEN, () -> k.enter(plain, hidden, inHidden, own, clear));
        c.due(0, () -> k.object(plain, 1));
        c.due(up, () -> k.object(raised, 1));
        c.due(1, () -> k.object(raised, 5));
        c.due(7, () -> k.enter(plain, 1, strict, own, clear));
        c.due(9, () -> k.enter(plain, hidden, inHidden, own, clear));
        c.due(8, () -> k.enter(plain, 1, stricter, own, clear));
    }

    private static void enteringLooksAtTheLabel() {
        // The gate owns category 0; the thread has 2 there, owns 1, and has 2 in 2.
        LabelKernel k = new LabelKernel();
        k.category(2);
        int g = k.gate(2, 1, k.object(2, 1), 1, 5);
        int label = k.label(k.label(0, 0, 2), 2, 2);
        int t = k.thread(2, 1, label, 1);
        k.category(t);
        int base = k.object(t, 1);
        int clear = k.label(k.object(t, 5), 0, 3);
        k.snapshot();
        long[] inFirst = {0, 0, 1, 1, 1};
        long[] inSecond = {0, 1, 1, 1, 1};
        long[] inThird = {0, 0, 1, 0, 0};
        long[] inFourth = {0, 1, 1, 0, 0};
        long[][] allowed = {inFirst, inSecond, inThird, inFourth};
        for (int category = 0; category < 4; category++) {
            for (int level = 0; level < 5; level++) {
                int wanted = k.label(base, category, level);
                if (allowed[category][level] == 1) {
                    c.due(5, () -> k.enter(t, 1, g, wanted, clear));
                    c.due(wanted, () -> k.object(t, 1));
                } else {
                    c.refused(Checks.FORBIDDEN, () -> k.enter(t, 1, g, wanted, clear));
                    c.due(base, () -> k.object(t, 1));
                }
                k.crash();
            }
        }
    }

    private static void enteringLooksAtTheClearance() {
        // The gate's clearance has 3 in category 0, the thread's 0 there and 3 in category 1.
        LabelKernel k = new LabelKernel();
        int t = k.thread(2, 1, 0, 1);
        k.category(2);
        int g = k.gate(2, 1, k.object(2, 1), 1, 5);
        k.category(t);
        int own = k.label(k.object(t, 1), 0, 4);
        int low = k.lower(t, k.label(k.object(t, 5), 0, 1));
        c.due(0, () -> low);
        int most = k.label(k.label(1, 0, 3), 1, 3);
        int tooMuch = k.label(most, 2, 3);
        int tooLittle = k.label(most, 3, 0);
        int most2 = k.label(most, 3, 1);
        c.refused(Checks.FORBIDDEN, () -> k.enter(t, 1, g, own, tooMuch));
        c.refused(Checks.FORBIDDEN, () -> k.enter(t, 1, g, own, tooLittle));
        c.due(1, () -> k.level(k.object(t, 5), 0));
        c.due(5, () -> k.enter(t, 1, g, own, most2));
        c.due(most2, () -> k.object(t, 5));
        c.due(5, () -> k.enter(t, 1, g, own, most));
        c.due(most, () -> k.object(t, 5));
        c.due(own, () -> k.object(t, 1));

        LabelKernel same = new LabelKernel();
        int gate = same.gate(2, 1, 0, 1, 6);
        for (int category = 0; category < 8; category++) {
            int above = same.label(1, category, 3);
            c.refused(Checks.FORBIDDEN, () -> same.enter(2, 1, gate, 0, above));
        }
        c.due(6, () -> same.enter(2, 1, gate, 0, 1));
    }

    private static void enteringAGateThatIsAboveTheThread() {
        // The document asks to see the container, not the gate: the label comes out as high.
        LabelKernel k = new LabelKernel();
        k.category(2);
        int top = k.label(0, 0, 3);
        int g = k.gate(2, 1, top, 1, 5);
        int plain = k.thread(2, 1, 0, 1);
        int clear = k.object(2, 5);
        c.refused(Checks.FORBIDDEN, () -> k.enter(plain, 1, g, 0, clear));
        c.refused(Checks.FORBIDDEN, () -> k.enter(plain, 1, g, k.label(0, 0, 2), clear));
        c.due(5, () -> k.enter(plain, 1, g, top, clear));
        c.due(top, () -> k.object(plain, 1));
    }

    private static void enteringLooksAtObjects() {
        LabelKernel k = new LabelKernel();
        int d = k.container(2, 1, 0, 20);
        int g = k.gate(2, d, 0, 1, 5);
        c.refused(Checks.MISSING, () -> k.enter(99, d, g, 0, 1));
        c.refused(Checks.MISSING, () -> k.enter(d, 99, g, 0, 1));
        c.refused(Checks.MISSING, () -> k.enter(2, g, 99, 0, 1));
        c.refused(Checks.BAD, () -> k.enter(d, d, g, 0, 1));
        c.refused(Checks.BAD, () -> k.enter(g, d, g, 0, 1));
        c.refused(Checks.BAD, () -> k.enter(2, g, g, 0, 1));
        c.refused(Checks.BAD, () -> k.enter(2, 1, d, 0, 1));
        c.refused(Checks.BAD, () -> k.enter(2, 1, 2, 0, 1));
        c.refused(Checks.MISSING, () -> k.enter(2, 1, g, 0, 1));
        c.due(5, () -> k.enter(2, d, g, 0, 1));
    }
}
