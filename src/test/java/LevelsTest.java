/**
 * What labels allow, at every level: one category, each level of the thread against each level of the object, of the
 * new label, of the CLEARANCE and of the gate. All else that a call looks at is as it should be.
 */
public final class LevelsTest {
    private static final Checks c = new Checks();
    private static final int STAR = LabelKernel.STAR;
    private static final int OWNER = 2;
    private static final int ROOT = 1;

    private final LabelKernel k = new LabelKernel();
    /** By level: 1 in every other category. */
    private final int[] label = new int[5];
    /** By level: 2 in every other category. */
    private final int[] clearance = new int[4];

    /** Thread 2 owns the category, and no other. */
    private LevelsTest(int category) {
        int other = k.thread(OWNER, ROOT, 0, 1);
        for (int before = 0; before < category; before++) {
            k.category(other);
        }
        k.drop(OWNER, ROOT, other);
        k.category(OWNER);
        for (int level = 0; level <= STAR; level++) {
            label[level] = k.label(0, category, level);
        }
        for (int level = 0; level < STAR; level++) {
            clearance[level] = k.label(1, category, level);
        }
    }

    public static void main(String[] args) {
        for (int category : new int[] {0, 7}) {
            for (int own = 0; own <= STAR; own++) {
                for (int its = 0; its < STAR; its++) {
                    new LevelsTest(category).contentsIn(own, its);
                    new LevelsTest(category).newObjectsIn(own, its);
                }
                for (int its = 0; its <= STAR; its++) {
                    new LevelsTest(category).quotaOf(own, its);
                }
                for (int most = Math.max(0, low(own)); most < STAR; most++) {
                    new LevelsTest(category).labelsOfNewObjects(own, most);
                    new LevelsTest(category).clearancesOfNewThreads(own, most);
                    new LevelsTest(category).becoming(own, most);
                    new LevelsTest(category).lowering(own, most);
                    gatesFor(category, own, most);
                }
            }
        }
        c.end();
    }

    private static void gatesFor(int category, int own, int most) {
        for (int gates = 0; gates <= STAR; gates++) {
            for (int gatesMost = Math.max(0, low(gates)); gatesMost < STAR; gatesMost++) {
                new LevelsTest(category).entering(own, most, gates, gatesMost);
            }
        }
    }

    private static int low(int level) {
        return level == STAR ? -1 : level;
    }

    private static boolean sees(int own, int its) {
        return own == STAR || low(its) <= own;
    }

    private static boolean changes(int own, int its) {
        return sees(own, its) && low(own) <= low(its);
    }

    private static boolean bears(int own, int most, int its) {
        return low(own) <= low(its) && low(its) <= most && (its != STAR || own == STAR);
    }

    private int thread(int own, int most) {
        return k.thread(OWNER, ROOT, label[own], clearance[most]);
    }

    /** A label without STAR that a thread of this level may see and change. */
    private int near(int own) {
        return label[own == STAR ? 2 : own];
    }

    private void contentsIn(int own, int its) {
        int t = thread(own, 3);
        int open = k.container(OWNER, ROOT, label[0], 30);
        int segment = k.segment(OWNER, open, label[its], 1);
        c.allowed(sees(own, its), () -> k.read(t, open, segment, 0));
        c.allowed(changes(own, its), () -> k.write(t, open, segment, 0, 5));
        c.due(changes(own, its) ? 5 : 0, () -> k.read(OWNER, open, segment, 0));
        // Of the container, a read or write asks only that it is seen.
        int box = k.container(OWNER, ROOT, label[its], 30);
        int inBox = k.segment(OWNER, box, near(own), 1);
        c.allowed(sees(own, its), () -> k.read(t, box, inBox, 0));
        c.allowed(sees(own, its), () -> k.write(t, box, inBox, 0, 5));
        c.allowed(changes(own, its), () -> k.move(t, box, inBox, 1));
        c.allowed(changes(own, its), () -> k.drop(t, box, inBox));
        int gate = k.gate(OWNER, box, label[STAR], 1, 9);
        int mine = label[own];
        c.allowed(sees(own, its) && low(own) <= 2, () -> k.enter(t, box, gate, mine, clearance[3]));
    }

    private void newObjectsIn(int own, int its) {
        int t = thread(own, 3);
        int box = k.container(OWNER, ROOT, label[its], 30);
        c.allowed(changes(own, its), () -> k.container(t, box, near(own), 1));
        c.allowed(changes(own, its), () -> k.segment(t, box, near(own), 1));
        c.allowed(changes(own, its), () -> k.gate(t, box, near(own), 0, 1));
        c.allowed(changes(own, its), () -> k.thread(t, box, near(own), clearance[3]));
    }

    /** Of gates, since their labels may have STAR too. */
    private void quotaOf(int own, int its) {
        int t = thread(own, 3);
        int box = k.container(OWNER, ROOT, near(own), 30);
        int gate = k.gate(OWNER, box, label[its], 0, 1);
        c.allowed(changes(own, its), () -> k.move(t, box, gate, 1));
        c.allowed(true, () -> k.drop(t, box, gate));
    }

    private void labelsOfNewObjects(int own, int most) {
        int t = thread(own, most);
        int box = k.container(OWNER, ROOT, near(own), 60);
        for (int its = 0; its < STAR; its++) {
            int wanted = label[its];
            c.allowed(bears(own, most, its), () -> k.container(t, box, wanted, 1));
            c.allowed(bears(own, most, its), () -> k.segment(t, box, wanted, 1));
        }
        for (int its = 0; its <= STAR; its++) {
            int wanted = label[its];
            c.allowed(bears(own, most, its), () -> k.gate(t, box, wanted, 0, 1));
            c.allowed(bears(own, most, its), () -> k.thread(t, box, wanted, clearance[most]));
        }
    }

    private void clearancesOfNewThreads(int own, int most) {
        int t = thread(own, most);
        int box = k.container(OWNER, ROOT, near(own), 60);
        for (int its = 0; its <= STAR; its++) {
            for (int itsMost = 0; itsMost < STAR; itsMost++) {
                int wanted = label[its];
                int above = clearance[itsMost];
                boolean want = bears(own, most, its) && itsMost <= most && low(its) <= itsMost;
                c.allowed(want, () -> k.thread(t, box, wanted, above));
            }
        }
    }

    private void becoming(int own, int most) {
        int t = thread(own, most);
        k.snapshot();
        for (int its = 0; its <= STAR; its++) {
            int wanted = label[its];
            boolean want = bears(own, most, its);
            c.allowed(want, () -> k.become(t, wanted));
            c.due(want ? wanted : label[own], () -> k.object(t, 1));
            c.due(clearance[most], () -> k.object(t, 5));
            k.crash();
        }
    }

    private void lowering(int own, int most) {
        int t = thread(own, most);
        k.snapshot();
        for (int its = 0; its < STAR; its++) {
            int wanted = clearance[its];
            boolean want = its <= most && low(own) <= its;
            c.allowed(want, () -> k.lower(t, wanted));
            c.due(want ? wanted : clearance[most], () -> k.object(t, 5));
            c.due(label[own], () -> k.object(t, 1));
            k.crash();
        }
    }

    private void entering(int own, int most, int gates, int gatesMost) {
        int t = thread(own, most);
        int maker = thread(STAR, gatesMost);
        int box = k.container(OWNER, ROOT, label[0], 30);
        int[] gate = new int[4];
        for (int guard = 0; guard < 4; guard++) {
            gate[guard] = k.gate(maker, box, label[gates], label[guard], 50 + guard);
        }
        k.snapshot();
        for (int its = 0; its <= STAR; its++) {
            boolean join = its == STAR ? own == STAR || gates == STAR : its >= low(own) && its >= low(gates);
            for (int itsMost = 0; itsMost < STAR; itsMost++) {
                boolean notAboveBoth = itsMost <= most || itsMost <= gatesMost;
                for (int guard = 0; guard < 4; guard++) {
                    boolean want = low(own) <= guard && join && low(its) <= itsMost && notAboveBoth;
                    int entered = gate[guard];
                    int wanted = label[its];
                    int above = clearance[itsMost];
                    c.allowed(want, () -> k.enter(t, box, entered, wanted, above));
                    c.due(want ? wanted : label[own], () -> k.object(t, 1));
                    c.due(want ? above : clearance[most], () -> k.object(t, 5));
                    k.crash();
                }
            }
        }
    }
}
