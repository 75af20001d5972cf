/** Promises 21 and 22: snapshot, crash. */
public final class SnapshotTest {
    private static final Checks c = new Checks();

    public static void main(String[] args) {
        crashWithoutSnapshot();
        crashBringsAllBack();
        theLastSnapshotCounts();
        numbersOfOtherKindsAfterACrash();
        c.end();
    }

    private static void crashWithoutSnapshot() {
        LabelKernel k = new LabelKernel();
        String first = Dump.of(k);
        k.user(2, 0, 1);
        k.file(2, 0, 0, 8);
        k.access(2, 0, 0, 0, true, 5);
        k.drop(2, 1, 2);
        c.due(2, () -> k.crash());
        c.due(first, Dump.of(k));
        c.due(2, () -> k.crash());
        c.refused(Checks.MISSING, () -> k.login(2, 0, 1));
        // Numbers, categories and labels begin anew, and cells are 0 again.
        c.due(3, () -> k.user(2, 0, 1));
        c.due(6, () -> k.file(2, 0, 0, 8));
        c.due(0, () -> k.access(2, 0, 0, 0, false, 0));
        c.due(8, () -> k.count(1));
    }

    private static void crashBringsAllBack() {
        LabelKernel k = new LabelKernel();
        k.user(2, 1, 77);
        k.file(2, 1, 2, 3);
        k.access(2, 1, 2, 2, true, 5);
        int gone = k.segment(2, 1, 0, 2);
        k.drop(2, 1, gone);
        int plain = k.thread(2, 1, 0, 1);
        int d = k.container(2, 1, 0, 10);
        int g = k.gate(2, d, k.object(2, 1), 0, 99);
        String then = Dump.of(k);
        c.due(9, () -> k.snapshot());
        c.due(then, Dump.of(k));
        k.access(2, 1, 2, 2, true, 6);
        k.move(2, 1, d, 5);
        k.file(2, 1, 2, 8);
        k.file(2, 1, 0, 1);
        k.login(plain, 1, 77);
        k.lower(plain, 0);
        k.user(2, 3, 5);
        k.drop(2, d, g);
        k.drop(2, 1, 3);
        k.drop(2, 1, d);
        k.label(1, 7, 4);
        c.due(9, () -> k.crash());
        c.due(then, Dump.of(k));
        c.due(5, () -> k.access(2, 1, 2, 2, false, 0));
        c.refused(Checks.MISSING, () -> k.access(2, 1, 0, 0, false, 0));
        c.refused(Checks.MISSING, () -> k.login(2, 3, 5));
        c.refused(Checks.FORBIDDEN, () -> k.login(plain, 1, 5));
        c.refused(Checks.MISSING, () -> k.object(gone, 0));
        c.due(99, () -> k.enter(plain, d, g, k.object(2, 1), 1));
        c.due(11, () -> k.segment(2, 1, 0, 1));
        c.due(9, () -> k.crash());
        c.due(1, () -> k.login(plain, 1, 77));
    }

    private static void theLastSnapshotCounts() {
        LabelKernel k = new LabelKernel();
        c.due(2, () -> k.snapshot());
        k.segment(2, 1, 0, 1);
        c.due(3, () -> k.snapshot());
        k.segment(2, 1, 0, 1);
        c.due(3, () -> k.crash());
        k.write(2, 1, 3, 0, 7);
        c.due(3, () -> k.crash());
        c.due(0, () -> k.read(2, 1, 3, 0));
        k.drop(2, 1, 3);
        k.drop(2, 1, 2);
        c.due(1, () -> k.snapshot());
        c.due(1, () -> k.crash());
        c.refused(Checks.MISSING, () -> k.object(3, 0));
    }

    private static void numbersOfOtherKindsAfterACrash() {
        LabelKernel k = new LabelKernel();
        c.due(3, () -> k.segment(2, 1, 0, 8));
        k.write(2, 1, 3, 1, 5);
        k.crash();
        c.due(3, () -> k.thread(2, 1, 0, 0));
        c.due(0, () -> k.object(3, 6));
        c.due(0, () -> k.object(3, 5));
        k.crash();
        c.due(3, () -> k.container(2, 1, 0, 10));
        c.due(-1, () -> k.object(3, 5));
        c.due(0, () -> k.object(3, 6));
        c.due(1, () -> k.object(3, 3));
        k.crash();
        c.due(3, () -> k.segment(2, 1, 0, 2));
        c.due(0, () -> k.read(2, 1, 3, 1));
        c.due(2, () -> k.object(3, 6));
    }
}
