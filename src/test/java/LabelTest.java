/** Promises 2 to 5: label, level, fits, category. */
public final class LabelTest {
    private static final Checks c = new Checks();

    public static void main(String[] args) {
        labelsAreFoundOrMade();
        labelsAreAtMostSixty();
        levels();
        wrongNumbers();
        fitting();
        categories();
        categoryNeedsRoomForBothLabels();
        categoryLooksAtTheThread();
        c.end();
    }

    private static void labelsAreFoundOrMade() {
        LabelKernel k = new LabelKernel();
        c.due(0, () -> k.label(0, 0, 1));
        c.due(1, () -> k.label(1, 7, 2));
        c.due(2, () -> k.count(1));
        c.due(2, () -> k.label(0, 7, 4));
        c.due(3, () -> k.label(2, 0, 0));
        c.due(2, () -> k.label(3, 0, 1));
        c.due(4, () -> k.label(0, 0, 0));
        c.due(3, () -> k.label(4, 7, 4));
        c.due(0, () -> k.label(2, 7, 1));
        c.due(5, () -> k.count(1));
        // All eight changed, one after the other, is label 1.
        int label = 0;
        for (int i = 0; i < 8; i++) {
            label = k.label(label, i, 2);
        }
        int last = label;
        c.due(1, () -> last);
    }

    private static void labelsAreAtMostSixty() {
        LabelKernel k = new LabelKernel();
        Checks.fillLabels(k, 59);
        c.due(59, () -> k.count(1));
        c.due(59, () -> k.label(0, 0, 4));
        c.due(60, () -> k.count(1));
        c.refused(Checks.FULL, () -> k.label(0, 0, 0));
        c.due(59, () -> k.label(0, 0, 4));
        c.due(0, () -> k.label(59, 0, 1));
        c.due(60, () -> k.count(1));
        c.due(4, () -> k.level(59, 0));
        c.refused(Checks.BAD, () -> k.level(60, 0));
        c.refused(Checks.BAD, () -> k.label(0, 0, 5));
    }

    private static void levels() {
        LabelKernel k = new LabelKernel();
        int label = 0;
        int[] want = {0, 1, 2, 3, 4, 0, 3, 4};
        for (int i = 0; i < 8; i++) {
            label = k.label(label, i, want[i]);
        }
        for (int i = 0; i < 8; i++) {
            int made = label;
            int category = i;
            c.due(want[i], () -> k.level(made, category));
            c.due(1, () -> k.level(0, category));
        }
    }

    private static void wrongNumbers() {
        LabelKernel k = new LabelKernel();
        int[] labels = {-1, 2, 60, Integer.MAX_VALUE, Integer.MIN_VALUE};
        for (int label : labels) {
            c.refused(Checks.BAD, () -> k.label(label, 0, 1));
            c.refused(Checks.BAD, () -> k.level(label, 0));
            c.refused(Checks.BAD, () -> k.fits(label, 0, false) ? 1 : 0);
            c.refused(Checks.BAD, () -> k.fits(0, label, true) ? 1 : 0);
        }
        int[] categories = {-1, 8, Integer.MAX_VALUE, Integer.MIN_VALUE};
        for (int category : categories) {
            c.refused(Checks.BAD, () -> k.label(0, category, 1));
            c.refused(Checks.BAD, () -> k.level(0, category));
        }
        c.refused(Checks.BAD, () -> k.label(0, 0, -1));
        c.refused(Checks.BAD, () -> k.label(0, 0, 5));
        c.due(2, () -> k.count(1));
    }

    private static void fitting() {
        // Label i has level i in a category, and is 1 elsewhere; 4 is STAR.
        for (int category = 0; category < 8; category++) {
            LabelKernel k = new LabelKernel();
            int[] label = new int[5];
            for (int i = 0; i < 5; i++) {
                label[i] = k.label(0, category, i);
            }
            for (int a = 0; a < 5; a++) {
                for (int b = 0; b < 5; b++) {
                    int low = a == 4 ? -1 : a;
                    int lowB = b == 4 ? -1 : b;
                    c.due(low <= lowB, k.fits(label[a], label[b], false));
                    c.due(low <= b, k.fits(label[a], label[b], true));
                }
            }
        }
        LabelKernel k = new LabelKernel();
        int up = k.label(0, 0, 3);
        int upAndDown = k.label(up, 7, 0);
        c.due(false, k.fits(0, upAndDown, false));
        c.due(false, k.fits(upAndDown, 0, false));
        c.due(true, k.fits(upAndDown, up, false));
        c.due(true, k.fits(0, 1, false));
        c.due(false, k.fits(1, 0, true));
    }

    private static void categories() {
        LabelKernel k = new LabelKernel();
        int other = k.thread(2, 1, 0, 1);
        for (int i = 0; i < 8; i++) {
            int given = i;
            int t = i % 2 == 0 ? 2 : other;
            c.due(given, () -> k.category(t));
            c.due(4, () -> k.level(k.object(t, 1), given));
            c.due(3, () -> k.level(k.object(t, 5), given));
            c.due(given + 1, () -> k.count(2));
        }
        c.due(1, () -> k.level(k.object(2, 1), 1));
        c.due(4, () -> k.level(k.object(2, 1), 0));
        c.due(2, () -> k.level(k.object(2, 5), 1));
        int labels = k.count(1);
        c.refused(Checks.FULL, () -> k.category(2));
        c.due(8, () -> k.count(2));
        c.due(labels, () -> k.count(1));
    }

    private static void categoryNeedsRoomForBothLabels() {
        LabelKernel k = new LabelKernel();
        Checks.fillLabels(k, 59);
        c.refused(Checks.FULL, () -> k.category(2));
        c.due(59, () -> k.count(1));
        c.due(0, () -> k.count(2));
        c.due(0, () -> k.object(2, 1));
        c.due(1, () -> k.object(2, 5));
        LabelKernel room = new LabelKernel();
        room.label(1, 0, 3);
        Checks.fillLabels(room, 59);
        c.due(0, () -> room.category(2));
        c.due(59, () -> room.object(2, 1));
        c.due(2, () -> room.object(2, 5));
        LabelKernel two = new LabelKernel();
        Checks.fillLabels(two, 58);
        c.due(0, () -> two.category(2));
        c.due(58, () -> two.object(2, 1));
        c.due(59, () -> two.object(2, 5));
        LabelKernel half = new LabelKernel();
        half.label(1, 0, 3);
        Checks.fillLabels(half, 60);
        c.refused(Checks.FULL, () -> half.category(2));
        c.due(0, () -> half.object(2, 1));
        c.due(0, () -> half.count(2));
        LabelKernel none = new LabelKernel();
        none.label(1, 0, 3);
        none.label(0, 0, 4);
        Checks.fillLabels(none, 60);
        c.due(0, () -> none.category(2));
        c.refused(Checks.FULL, () -> none.category(2));
        c.due(1, () -> none.count(2));
    }

    private static void categoryLooksAtTheThread() {
        LabelKernel k = new LabelKernel();
        c.refused(Checks.BAD, () -> k.category(1));
        c.refused(Checks.MISSING, () -> k.category(3));
        c.refused(Checks.MISSING, () -> k.category(0));
        c.refused(Checks.MISSING, () -> k.category(61));
        for (int i = 0; i < 8; i++) {
            k.category(2);
        }
        c.refused(Checks.BAD, () -> k.category(1));
        c.refused(Checks.MISSING, () -> k.category(-1));
    }
}
