/** Promises 6 to 9: container, segment, gate, thread, and what all of them look at. */
public final class MakeTest {
    private static final Checks c = new Checks();

    interface Maker {
        long make(LabelKernel k, int t, int d, int label);
    }

    private static final Maker CONTAINER = (k, t, d, label) -> k.container(t, d, label, 2);
    private static final Maker SEGMENT = (k, t, d, label) -> k.segment(t, d, label, 1);
    private static final Maker GATE = (k, t, d, label) -> k.gate(t, d, label, 1, 5);
    private static final Maker THREAD = (k, t, d, label) -> k.thread(t, d, label, label);
    private static final Maker[] ALL = {CONTAINER, SEGMENT, GATE, THREAD};

    public static void main(String[] args) {
        whatIsMade();
        wrongNumbers();
        for (Maker maker : ALL) {
            namesObjects(maker);
            labelsAllow(maker);
            quotaIsThere(maker);
            depthIsThere(maker);
            numbersAreThere(maker);
        }
        starsInLabels();
        threadClearance();
        c.end();
    }

    private static void is(LabelKernel k, int o, int... want) {
        for (int i = 0; i < want.length; i++) {
            int what = i;
            c.due(want[i], () -> k.object(o, what));
        }
    }

    private static void whatIsMade() {
        LabelKernel k = new LabelKernel();
        int low = k.label(1, 3, 1);
        c.due(3, () -> k.container(2, 1, 0, 100));
        c.due(4, () -> k.segment(2, 3, low, 8));
        c.due(5, () -> k.segment(2, 3, 0, 1));
        c.due(6, () -> k.gate(2, 3, 0, 1, Integer.MIN_VALUE));
        c.due(7, () -> k.thread(2, 3, 0, low));
        c.due(8, () -> k.container(2, 3, 1, 1));
        is(k, 3, 0, 0, 100, 1 + 9 + 2 + 2 + 2 + 1, 1, -1, 0);
        is(k, 4, 1, low, 9, 9, 3, -1, 8);
        is(k, 5, 1, 0, 2, 2, 3, -1, 1);
        is(k, 6, 2, 0, 2, 2, 3, 1, 0);
        is(k, 7, 3, 0, 2, 2, 3, low, 0);
        is(k, 8, 0, 1, 1, 1, 3, -1, 0);
        c.due(0, () -> k.read(2, 3, 5, 0));
        c.due(103, () -> k.object(1, 3));
        // The gate keeps the clearance that its maker had.
        k.lower(2, 0);
        is(k, 6, 2, 0, 2, 2, 3, 1, 0);
        c.due(9, () -> k.gate(2, 3, 0, 1, 0));
        is(k, 9, 2, 0, 2, 2, 3, 0, 0);
    }

    private static void wrongNumbers() {
        LabelKernel k = new LabelKernel();
        k.category(2);
        int starred = k.object(2, 1);
        int[] badLabels = {-1, k.count(1), 60, Integer.MAX_VALUE, Integer.MIN_VALUE};
        for (int bad : badLabels) {
            for (Maker maker : ALL) {
                c.refused(Checks.BAD, () -> maker.make(k, 2, 1, bad));
                c.refused(Checks.BAD, () -> maker.make(k, 99, 99, bad));
            }
            c.refused(Checks.BAD, () -> k.gate(99, 1, 0, bad, 0));
            c.refused(Checks.BAD, () -> k.thread(99, 1, 0, bad));
            c.refused(Checks.BAD, () -> k.thread(99, 1, bad, 0));
        }
        c.refused(Checks.BAD, () -> k.container(99, 1, starred, 1));
        c.refused(Checks.BAD, () -> k.segment(99, 1, starred, 1));
        c.refused(Checks.BAD, () -> k.gate(99, 1, 0, starred, 1));
        c.refused(Checks.BAD, () -> k.thread(99, 1, 0, starred));
        int[] badQuotas = {0, 201, -1, Integer.MAX_VALUE, Integer.MIN_VALUE};
        for (int bad : badQuotas) {
            c.refused(Checks.BAD, () -> k.container(99, 1, 0, bad));
        }
        int[] badCells = {0, 9, -1, Integer.MAX_VALUE, Integer.MIN_VALUE};
        for (int bad : badCells) {
            c.refused(Checks.BAD, () -> k.segment(99, 1, 0, bad));
        }
        c.refused(Checks.MISSING, () -> k.container(99, 1, 0, 200));
        c.refused(Checks.FULL, () -> k.container(2, 1, 0, 200));
        c.due(2, () -> k.count(0));
        c.due(3, () -> k.segment(2, 1, 0, 8));
    }

    private static void namesObjects(Maker maker) {
        LabelKernel k = new LabelKernel();
        int segment = k.segment(2, 1, 0, 1);
        c.refused(Checks.MISSING, () -> maker.make(k, 99, 1, 0));
        c.refused(Checks.MISSING, () -> maker.make(k, 0, segment, 0));
        c.refused(Checks.MISSING, () -> maker.make(k, 2, 99, 0));
        c.refused(Checks.MISSING, () -> maker.make(k, 1, 61, 0));
        c.refused(Checks.BAD, () -> maker.make(k, 1, 1, 0));
        c.refused(Checks.BAD, () -> maker.make(k, segment, 1, 0));
        c.refused(Checks.BAD, () -> maker.make(k, 2, segment, 0));
        c.refused(Checks.BAD, () -> maker.make(k, 2, 2, 0));
        // The kind of the container is looked at before the labels.
        c.refused(Checks.BAD, () -> maker.make(k, 2, 2, k.label(0, 0, 0)));
        c.due(3, () -> k.count(0));
    }

    private static void labelsAllow(Maker maker) {
        LabelKernel k = new LabelKernel();
        k.category(2);
        int down = k.label(0, 0, 0);
        int up = k.label(0, 0, 2);
        int top = k.label(0, 0, 3);
        int low = k.container(2, 1, down, 20);
        int high = k.container(2, 1, up, 20);
        int plain = k.thread(2, 1, 0, 1);
        // A container that is seen but not changed, and one that is not seen.
        c.refused(Checks.FORBIDDEN, () -> maker.make(k, plain, low, 0));
        c.refused(Checks.FORBIDDEN, () -> maker.make(k, plain, high, up));
        // A label below the thread's, and one above its clearance.
        c.refused(Checks.FORBIDDEN, () -> maker.make(k, plain, 1, down));
        c.refused(Checks.FORBIDDEN, () -> maker.make(k, plain, 1, top));
        int next = 6;
        c.due(next, () -> maker.make(k, plain, 1, up));
        c.due(next + 1, () -> maker.make(k, 2, 1, top));
        c.due(next + 2, () -> maker.make(k, 2, low, top));
        c.due(next + 3, () -> maker.make(k, 2, high, down));
        k.become(plain, up);
        c.refused(Checks.FORBIDDEN, () -> maker.make(k, plain, 1, up));
        c.due(next + 4, () -> maker.make(k, plain, high, up));
    }

    private static void quotaIsThere(Maker maker) {
        LabelKernel k = new LabelKernel();
        k.container(2, 1, 0, 7);
        k.segment(2, 3, 0, 2);
        c.due(4, () -> k.object(3, 3));
        c.due(5, () -> maker.make(k, 2, 3, 0));
        c.due(6, () -> k.object(3, 3));
        c.refused(Checks.FULL, () -> maker.make(k, 2, 3, 0));
        k.move(2, 1, 3, 1);
        c.due(6, () -> maker.make(k, 2, 3, 0));
        c.refused(Checks.FULL, () -> maker.make(k, 2, 3, 0));
        // Labels come before room.
        c.refused(Checks.FORBIDDEN, () -> maker.make(k, 2, 3, k.label(0, 0, 3)));
        c.due(6, () -> k.count(0));
    }

    private static void depthIsThere(Maker maker) {
        LabelKernel k = new LabelKernel();
        int d = 1;
        for (int depth = 1; depth <= 11; depth++) {
            d = k.container(2, d, 0, 150 - 5 * depth);
        }
        int eleventh = d;
        int twelfth = k.container(2, eleventh, 0, 50);
        c.due(15, () -> maker.make(k, 2, eleventh, 0));
        c.refused(Checks.FULL, () -> maker.make(k, 2, twelfth, 0));
        c.due(1, () -> k.object(twelfth, 3));
    }

    private static void numbersAreThere(Maker maker) {
        LabelKernel k = new LabelKernel();
        Checks.useNumbers(k, 59);
        c.due(60, () -> maker.make(k, 2, 1, 0));
        c.refused(Checks.FULL, () -> maker.make(k, 2, 1, 0));
        c.due(1, () -> k.drop(2, 1, 60));
        c.refused(Checks.FULL, () -> maker.make(k, 2, 1, 0));
        c.refused(Checks.MISSING, () -> k.object(60, 0));
        c.refused(Checks.MISSING, () -> k.object(61, 0));
        c.due(2, () -> k.count(0));
    }

    private static void starsInLabels() {
        LabelKernel k = new LabelKernel();
        int plain = k.thread(2, 1, 0, 1);
        k.category(2);
        int own = k.object(2, 1);
        int others = k.label(0, 1, 4);
        int clearance = k.object(2, 5);
        c.refused(Checks.FORBIDDEN, () -> k.gate(plain, 1, own, 1, 0));
        c.refused(Checks.FORBIDDEN, () -> k.thread(plain, 1, own, 1));
        c.refused(Checks.FORBIDDEN, () -> k.gate(2, 1, others, 1, 0));
        c.refused(Checks.FORBIDDEN, () -> k.thread(2, 1, others, 1));
        c.due(4, () -> k.gate(2, 1, own, 1, 0));
        c.due(clearance, () -> k.object(4, 5));
        c.due(5, () -> k.thread(2, 1, own, 1));
        c.due(own, () -> k.object(5, 1));
        c.due(6, () -> k.gate(2, 1, 0, 1, 0));
        // An owner of a category may change what others may not, and make threads that don't own it.
        c.due(7, () -> k.thread(2, 1, k.label(0, 0, 0), 1));
    }

    private static void threadClearance() {
        LabelKernel k = new LabelKernel();
        int top = k.label(1, 4, 3);
        int up = k.label(0, 4, 2);
        c.refused(Checks.FORBIDDEN, () -> k.thread(2, 1, 0, top));
        c.refused(Checks.FORBIDDEN, () -> k.thread(2, 1, up, 0));
        c.due(3, () -> k.thread(2, 1, up, up));
        c.due(4, () -> k.thread(2, 1, 0, 0));
        c.due(5, () -> k.thread(4, 1, 0, 0));
        c.refused(Checks.FORBIDDEN, () -> k.thread(4, 1, 0, 1));
        c.refused(Checks.FORBIDDEN, () -> k.thread(4, 1, up, 1));
    }
}
