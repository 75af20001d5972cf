/** Promises 23 to 26: object, in, count, order and limits. */
public final class LookTest {
    private static final Checks c = new Checks();

    public static void main(String[] args) {
        objects();
        contents();
        counts();
        c.end();
    }

    private static void objects() {
        LabelKernel k = new LabelKernel();
        int[] badWhats = {-1, 7, Integer.MAX_VALUE, Integer.MIN_VALUE};
        for (int what : badWhats) {
            c.refused(Checks.BAD, () -> k.object(1, what));
            c.refused(Checks.BAD, () -> k.object(99, what));
        }
        int[] missing = {0, -1, 3, 60, 61, Integer.MAX_VALUE, Integer.MIN_VALUE};
        for (int o : missing) {
            for (int i = 0; i < 7; i++) {
                int what = i;
                c.refused(Checks.MISSING, () -> k.object(o, what));
            }
            c.refused(Checks.MISSING, () -> k.in(o, 0));
            c.refused(Checks.MISSING, () -> k.category(o));
            c.refused(Checks.MISSING, () -> k.read(2, 1, o, 0));
            c.refused(Checks.MISSING, () -> k.read(2, o, 2, 0));
            c.refused(Checks.MISSING, () -> k.read(o, 2, 2, 0));
        }
        int s = k.segment(2, 1, 1, 6);
        int[] want = {1, 1, 7, 7, 1, -1, 6};
        for (int i = 0; i < 7; i++) {
            int what = i;
            c.due(want[i], () -> k.object(s, what));
        }
        k.drop(2, 1, s);
        c.refused(Checks.MISSING, () -> k.object(s, 0));
    }

    private static void contents() {
        LabelKernel k = new LabelKernel();
        int d = k.container(2, 1, 0, 50);
        int a = k.segment(2, 1, 0, 1);
        int b = k.segment(2, d, 0, 1);
        int e = k.thread(2, 1, 0, 1);
        int f = k.gate(2, d, 0, 1, 0);
        c.due(2, () -> k.in(1, 0));
        c.due(d, () -> k.in(1, 1));
        c.due(a, () -> k.in(1, 2));
        c.due(e, () -> k.in(1, 3));
        c.refused(Checks.MISSING, () -> k.in(1, 4));
        c.refused(Checks.MISSING, () -> k.in(1, -1));
        c.refused(Checks.MISSING, () -> k.in(1, Integer.MIN_VALUE));
        c.refused(Checks.MISSING, () -> k.in(1, Integer.MAX_VALUE));
        c.due(b, () -> k.in(d, 0));
        c.due(f, () -> k.in(d, 1));
        k.drop(2, d, b);
        c.due(f, () -> k.in(d, 0));
        c.refused(Checks.MISSING, () -> k.in(d, 1));
        k.drop(2, 1, a);
        c.due(e, () -> k.in(1, 2));
        c.refused(Checks.BAD, () -> k.in(2, 0));
        c.refused(Checks.BAD, () -> k.in(f, -1));
        c.refused(Checks.MISSING, () -> k.in(a, 0));
    }

    private static void counts() {
        LabelKernel k = new LabelKernel();
        k.user(2, 3, 0);
        k.label(0, 7, 3);
        c.due(5, () -> k.count(0));
        c.due(9, () -> k.count(1));
        c.due(2, () -> k.count(2));
        c.due(1, () -> k.count(3));
        int[] others = {-1, 4, Integer.MAX_VALUE, Integer.MIN_VALUE};
        for (int what : others) {
            c.due(-1, () -> k.count(what));
        }
        k.drop(2, 1, 3);
        c.due(3, () -> k.count(0));
        c.due(1, () -> k.count(3));
    }
}
