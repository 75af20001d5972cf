/** Promise 1, and what two objects share: nothing. */
public final class NewObjectTest {
    public static void main(String[] args) {
        Checks c = new Checks();
        LabelKernel k = new LabelKernel();
        c.due(2, () -> k.count(0));
        c.due(2, () -> k.count(1));
        c.due(0, () -> k.count(2));
        c.due(0, () -> k.count(3));
        for (int i = 0; i < 8; i++) {
            int category = i;
            c.due(1, () -> k.level(0, category));
            c.due(2, () -> k.level(1, category));
        }
        int[] container = {0, 0, 200, 3, 0, -1, 0};
        int[] thread = {3, 0, 2, 2, 1, 1, 0};
        for (int i = 0; i < 7; i++) {
            int what = i;
            c.due(container[what], () -> k.object(1, what));
            c.due(thread[what], () -> k.object(2, what));
        }
        c.due(2, () -> k.in(1, 0));
        c.refused(Checks.MISSING, () -> k.in(1, 1));
        c.refused(Checks.MISSING, () -> k.object(3, 0));

        LabelKernel other = new LabelKernel();
        k.segment(2, 1, 0, 1);
        k.label(0, 0, 0);
        k.snapshot();
        c.due(2, () -> other.count(0));
        c.due(2, () -> other.count(1));
        c.due(2, () -> other.crash());
        c.due(4, () -> LabelKernel.STAR);
        c.end();
    }
}
