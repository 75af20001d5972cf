/** Promises 10 to 13: read, write, move, drop. */
public final class ContentTest {
    private static final Checks c = new Checks();

    public static void main(String[] args) {
        cellsKeepTheirValues();
        cellsLookAtNumbersAndObjects();
        cellsLookAtLabels();
        quotasMove();
        moveLooksAtNumbersAndObjects();
        moveLooksAtLabels();
        treesAreDropped();
        dropLooksAtObjectsAndLabels();
        c.end();
    }

    private static void cellsKeepTheirValues() {
        LabelKernel k = new LabelKernel();
        int a = k.segment(2, 1, 0, 8);
        int b = k.segment(2, 1, 0, 8);
        for (int i = 0; i < 8; i++) {
            int cell = i;
            c.due(0, () -> k.read(2, 1, a, cell));
            c.due(0, () -> k.write(2, 1, a, cell, 100 + cell));
            c.due(0, () -> k.write(2, 1, b, cell, -cell));
        }
        for (int i = 0; i < 8; i++) {
            int cell = i;
            c.due(100 + cell, () -> k.read(2, 1, a, cell));
            c.due(-cell, () -> k.read(2, 1, b, cell));
        }
        c.due(103, () -> k.write(2, 1, a, 3, Integer.MIN_VALUE));
        c.due(Integer.MIN_VALUE, () -> k.write(2, 1, a, 3, Integer.MAX_VALUE));
        c.due(Integer.MAX_VALUE, () -> k.read(2, 1, a, 3));
        LabelKernel last = new LabelKernel();
        Checks.useNumbers(last, 59);
        c.due(60, () -> last.segment(2, 1, 0, 8));
        c.due(0, () -> last.write(2, 1, 60, 7, 9));
        c.due(9, () -> last.read(2, 1, 60, 7));
    }

    private static void cellsLookAtNumbersAndObjects() {
        LabelKernel k = new LabelKernel();
        int d = k.container(2, 1, 0, 20);
        int s = k.segment(2, d, 0, 3);
        int[] bad = {-1, 8, Integer.MAX_VALUE, Integer.MIN_VALUE};
        for (int i : bad) {
            c.refused(Checks.BAD, () -> k.read(99, 99, 99, i));
            c.refused(Checks.BAD, () -> k.write(99, 99, 99, i, 1));
        }
        int[][] missing = {{99, d, s, 0}, {2, 99, s, 0}, {2, d, 99, 0}, {s, 0, s, 0}, {2, s, -1, 0},
            {2, d, s, 3}, {2, d, s, 7}, {2, 1, s, 0}};
        for (int[] m : missing) {
            c.refused(Checks.MISSING, () -> k.read(m[0], m[1], m[2], m[3]));
            c.refused(Checks.MISSING, () -> k.write(m[0], m[1], m[2], m[3], 1));
        }
        int[][] kinds = {{d, d, s, 0}, {2, s, s, 0}, {2, d, d, 7}, {2, 1, 2, 0}, {2, d, 2, 7}};
        for (int[] m : kinds) {
            c.refused(Checks.BAD, () -> k.read(m[0], m[1], m[2], m[3]));
            c.refused(Checks.BAD, () -> k.write(m[0], m[1], m[2], m[3], 1));
        }
        c.due(0, () -> k.read(2, d, s, 2));
        c.due(0, () -> k.read(2, d, s, 0));
    }

    private static void cellsLookAtLabels() {
        LabelKernel k = new LabelKernel();
        k.category(2);
        int plain = k.thread(2, 1, 0, 1);
        int up = k.label(0, 0, 2);
        int down = k.label(0, 0, 0);
        int high = k.container(2, 1, up, 20);
        int low = k.container(2, 1, down, 20);
        int highSegment = k.segment(2, 1, up, 1);
        int lowSegment = k.segment(2, 1, down, 1);
        int hidden = k.segment(2, high, 0, 1);
        int shown = k.segment(2, low, 0, 1);
        c.refused(Checks.FORBIDDEN, () -> k.read(plain, 1, highSegment, 0));
        c.refused(Checks.FORBIDDEN, () -> k.write(plain, 1, highSegment, 0, 5));
        c.due(0, () -> k.read(plain, 1, lowSegment, 0));
        c.refused(Checks.FORBIDDEN, () -> k.write(plain, 1, lowSegment, 0, 5));
        c.refused(Checks.FORBIDDEN, () -> k.read(plain, high, hidden, 0));
        c.refused(Checks.FORBIDDEN, () -> k.write(plain, high, hidden, 0, 5));
        // To write, the container has only to be seen.
        c.due(0, () -> k.write(plain, low, shown, 0, 5));
        c.due(5, () -> k.read(plain, low, shown, 0));
        c.due(0, () -> k.write(2, 1, highSegment, 0, 6));
        c.due(0, () -> k.write(2, 1, lowSegment, 0, 7));
        c.due(0, () -> k.write(2, high, hidden, 0, 8));
        k.become(plain, up);
        c.due(6, () -> k.read(plain, 1, highSegment, 0));
        c.due(6, () -> k.write(plain, 1, highSegment, 0, 9));
        c.due(8, () -> k.read(plain, high, hidden, 0));
        c.refused(Checks.FORBIDDEN, () -> k.write(plain, high, hidden, 0, 5));
        // The cell is looked at before the labels.
        c.refused(Checks.MISSING, () -> k.write(plain, high, hidden, 1, 5));
    }

    private static void quotasMove() {
        LabelKernel k = new LabelKernel();
        int d = k.container(2, 1, 0, 30);
        int s = k.segment(2, d, 0, 4);
        int t = k.thread(2, d, 0, 1);
        c.due(15, () -> k.move(2, d, s, 10));
        c.due(18, () -> k.object(d, 3));
        c.due(30, () -> k.object(d, 2));
        c.due(5, () -> k.object(s, 3));
        c.due(14, () -> k.move(2, d, t, 12));
        c.due(30, () -> k.object(d, 3));
        c.refused(Checks.FULL, () -> k.move(2, d, t, 1));
        c.refused(Checks.FULL, () -> k.move(2, d, s, 200));
        c.refused(Checks.FULL, () -> k.move(2, 1, d, -1));
        c.due(15, () -> k.move(2, d, s, 0));
        c.refused(Checks.FULL, () -> k.move(2, d, s, -11));
        c.due(5, () -> k.move(2, d, s, -10));
        c.refused(Checks.FULL, () -> k.move(2, d, s, -1));
        c.refused(Checks.FULL, () -> k.move(2, d, t, -13));
        c.due(2, () -> k.move(2, d, t, -12));
        c.due(8, () -> k.move(2, 1, d, -22));
        c.refused(Checks.FULL, () -> k.move(2, 1, d, -1));
        c.due(197, () -> k.move(2, 1, d, 189));
        c.refused(Checks.FULL, () -> k.move(2, 1, d, 1));
        c.due(200, () -> k.object(1, 3));
        // A thread's own quota, and that of a gate.
        c.due(196, () -> k.move(2, 1, d, -1));
        c.due(3, () -> k.move(2, 1, 2, 1));
        int g = k.gate(2, d, 0, 1, 1);
        c.due(4, () -> k.move(2, d, g, 2));
        c.refused(Checks.FULL, () -> k.move(2, d, g, -3));
    }

    private static void moveLooksAtNumbersAndObjects() {
        LabelKernel k = new LabelKernel();
        int d = k.container(2, 1, 0, 20);
        int s = k.segment(2, d, 0, 3);
        int[] bad = {201, -201, Integer.MAX_VALUE, Integer.MIN_VALUE};
        for (int n : bad) {
            c.refused(Checks.BAD, () -> k.move(99, 99, 99, n));
        }
        c.refused(Checks.MISSING, () -> k.move(99, d, s, 200));
        c.refused(Checks.MISSING, () -> k.move(s, 99, s, -200));
        c.refused(Checks.MISSING, () -> k.move(2, s, 99, 0));
        c.refused(Checks.BAD, () -> k.move(d, d, s, 0));
        c.refused(Checks.BAD, () -> k.move(2, s, s, 0));
        c.refused(Checks.MISSING, () -> k.move(2, 1, s, 0));
        c.refused(Checks.MISSING, () -> k.move(2, 1, 1, 0));
        c.due(4, () -> k.object(s, 2));
    }

    private static void moveLooksAtLabels() {
        LabelKernel k = new LabelKernel();
        k.category(2);
        int plain = k.thread(2, 1, 0, 1);
        int up = k.label(0, 0, 2);
        int down = k.label(0, 0, 0);
        int low = k.container(2, 1, down, 20);
        int inLow = k.segment(2, low, 0, 1);
        int highSegment = k.segment(2, 1, up, 1);
        int lowSegment = k.segment(2, 1, down, 1);
        int owners = k.gate(2, 1, k.object(2, 1), 1, 0);
        c.refused(Checks.FORBIDDEN, () -> k.move(plain, low, inLow, 1));
        c.refused(Checks.FORBIDDEN, () -> k.move(plain, 1, highSegment, 1));
        c.refused(Checks.FORBIDDEN, () -> k.move(plain, 1, lowSegment, 1));
        c.refused(Checks.FORBIDDEN, () -> k.move(plain, 1, owners, 1));
        c.refused(Checks.FORBIDDEN, () -> k.move(plain, 1, lowSegment, 200));
        c.due(3, () -> k.move(plain, 1, plain, 1));
        c.due(3, () -> k.move(2, low, inLow, 1));
        c.due(3, () -> k.move(2, 1, highSegment, 1));
        c.due(3, () -> k.move(2, 1, lowSegment, 1));
        c.due(3, () -> k.move(2, 1, owners, 1));
    }

    private static void treesAreDropped() {
        LabelKernel k = new LabelKernel();
        int a = k.container(2, 1, 0, 100);
        int b = k.container(2, a, 0, 50);
        int other = k.container(2, 1, 0, 20);
        int deep = k.container(2, b, 0, 10);
        int inOther = k.segment(2, other, 0, 1);
        int last = k.segment(2, deep, 0, 1);
        int inA = k.thread(2, a, 0, 1);
        c.due(9, () -> k.count(0));
        c.due(5, () -> k.drop(inA, 1, a));
        c.due(4, () -> k.count(0));
        for (int gone : new int[] {a, b, deep, last, inA}) {
            c.refused(Checks.MISSING, () -> k.object(gone, 0));
        }
        c.due(0, () -> k.object(other, 0));
        c.due(1, () -> k.object(inOther, 0));
        c.due(23, () -> k.object(1, 3));
        c.refused(Checks.MISSING, () -> k.drop(2, 1, a));
        c.refused(Checks.MISSING, () -> k.category(inA));
        c.due(1, () -> k.drop(2, other, inOther));
        c.due(10, () -> k.container(2, other, 0, 19));
        c.due(1, () -> k.drop(2, 1, 2));
        c.refused(Checks.MISSING, () -> k.drop(2, 1, other));
        c.due(3, () -> k.count(0));
    }

    private static void dropLooksAtObjectsAndLabels() {
        LabelKernel k = new LabelKernel();
        k.category(2);
        int plain = k.thread(2, 1, 0, 1);
        int low = k.container(2, 1, k.label(0, 0, 0), 20);
        int inLow = k.segment(2, low, 0, 1);
        int high = k.container(2, 1, k.label(0, 0, 3), 20);
        int inHigh = k.segment(2, high, 0, 1);
        c.refused(Checks.MISSING, () -> k.drop(99, low, inLow));
        c.refused(Checks.MISSING, () -> k.drop(low, 0, inLow));
        c.refused(Checks.MISSING, () -> k.drop(2, inLow, 61));
        c.refused(Checks.BAD, () -> k.drop(low, low, inLow));
        c.refused(Checks.BAD, () -> k.drop(2, inLow, inLow));
        c.refused(Checks.MISSING, () -> k.drop(2, 1, inLow));
        c.refused(Checks.MISSING, () -> k.drop(2, 1, 1));
        c.refused(Checks.FORBIDDEN, () -> k.drop(plain, low, inLow));
        c.refused(Checks.FORBIDDEN, () -> k.drop(plain, high, inHigh));
        c.due(7, () -> k.count(0));
        // What is dropped need not be seen itself.
        c.due(2, () -> k.drop(plain, 1, high));
        c.due(2, () -> k.drop(plain, 1, low));
    }
}
