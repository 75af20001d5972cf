import java.util.Arrays;
import java.util.stream.Stream;

/**
 * What a call of the kernel looks at, in which order, and that one that throws changes nothing: each call with every
 * mixture of arguments that are right and that fail one of the looks 1 to 6.
 */
public final class OrderTest {
    private static final Checks c = new Checks();
    private static final Looks looks = new Looks(c);

    // The labels of the world: 1 everywhere but in the category and with the level that stand behind them.
    private static final int STAR_OF_OTHER = 2;     // 0 STAR
    private static final int DOWN = 4;              // 0 0
    private static final int UP = 5;                // 0 2
    private static final int TOP = 6;               // 0 3
    private static final int OWN_STAR = 7;          // 1 STAR
    private static final int OWN_CLEARANCE = 8;     // 2 everywhere, but 1 3
    private static final int OWN_DOWN = 9;          // 1 0
    private static final int CLEARANCE_TOP = 10;    // 2 everywhere, but 7 3
    private static final int NO_LABEL = 11;

    // Its objects. Thread 2 owns category 1, thread OTHER owns category 0.
    private static final int ROOT = 1;
    private static final int T = 2;
    private static final int OTHER = 3;
    private static final int BOX = 4;
    private static final int SEGMENT = 5;           // in BOX, as all up to LOW_SEGMENT
    private static final int GATE = 6;
    private static final int STRICT_GATE = 7;       // whose guard T does not fit under
    private static final int HIGH_SEGMENT = 8;      // that T may not see
    private static final int LOW_SEGMENT = 9;       // that T may see but not change
    private static final int LOW_BOX = 10;          // that T may see but not change
    private static final int IN_LOW = 11;
    private static final int GATE_IN_LOW = 12;
    private static final int HIGH_BOX = 13;         // that T may not see
    private static final int IN_HIGH = 14;
    private static final int GATE_IN_HIGH = 15;
    private static final int FULL_BOX = 16;
    private static final int BLIND = 17;            // a thread that may see nothing of these
    private static final int RAISED = 18;           // a thread that may see but not change these
    private static final int GONE = 19;

    // In the deep world alone: a box that lies 12 deep, in one of the number before it.
    private static final int DEEPEST = 14;

    public static void main(String[] args) {
        c.due(GONE - 1, () -> world().count(0));
        c.due(NO_LABEL, () -> world().count(1));
        labels();
        category();
        container();
        segment();
        gate();
        thread();
        read();
        write();
        move();
        drop();
        become();
        lower();
        enter();
        object();
        in();
        numbersOutOfRange();
        c.end();
    }

    private static LabelKernel world() {
        LabelKernel k = new LabelKernel();
        k.thread(T, ROOT, 0, 1);
        k.category(OTHER);
        k.label(0, 0, 0);
        k.label(0, 0, 2);
        k.label(0, 0, 3);
        k.category(T);
        k.label(0, 1, 0);
        k.label(1, 7, 3);
        k.container(T, ROOT, 0, 40);
        k.segment(T, BOX, 0, 2);
        k.gate(T, BOX, 0, 1, 77);
        k.gate(T, BOX, 0, DOWN, 78);
        k.segment(OTHER, BOX, UP, 2);
        k.segment(OTHER, BOX, DOWN, 2);
        k.container(OTHER, ROOT, DOWN, 20);
        k.segment(OTHER, LOW_BOX, 0, 2);
        k.gate(OTHER, LOW_BOX, 0, 1, 79);
        k.container(OTHER, ROOT, UP, 20);
        k.segment(OTHER, HIGH_BOX, 0, 2);
        k.gate(OTHER, HIGH_BOX, 0, 1, 80);
        k.container(T, ROOT, 0, 1);
        k.thread(T, ROOT, OWN_DOWN, 1);
        k.thread(T, ROOT, 1, 1);
        k.segment(T, ROOT, 0, 1);
        k.drop(T, ROOT, GONE);
        return k;
    }

    private static LabelKernel worldWithoutNumbers() {
        LabelKernel k = world();
        Checks.useNumbers(k, 60);
        return k;
    }

    private static LabelKernel worldWithoutLabels() {
        LabelKernel k = world();
        Checks.fillLabels(k, 60);
        return k;
    }

    private static LabelKernel worldWithoutCategories() {
        LabelKernel k = world();
        for (int given = 2; given < 8; given++) {
            k.category(OTHER);
        }
        return k;
    }

    private static LabelKernel deepWorld() {
        LabelKernel k = new LabelKernel();
        int d = ROOT;
        for (int depth = 1; depth <= 12; depth++) {
            d = k.container(T, d, 0, 150 - 10 * depth);
        }
        return k;
    }

    /** For the calls that a thread makes about itself alone. */
    private static Looks.Arg[] themselves() {
        return Looks.args(Looks.good(T), Looks.fails(2, -1), Looks.fails(2, 0), Looks.fails(2, GONE),
                Looks.fails(2, 61), Looks.fails(3, BOX), Looks.fails(3, SEGMENT), Looks.fails(3, GATE));
    }

    private static Looks.Arg[] seeing() {
        return Looks.args(Looks.good(T), Looks.fails(2, 0), Looks.fails(2, GONE), Looks.fails(2, 61),
                Looks.fails(3, BOX), Looks.fails(5, BLIND));
    }

    private static Looks.Arg[] changing() {
        return Looks.args(Looks.good(T), Looks.fails(2, 0), Looks.fails(2, GONE), Looks.fails(2, 61),
                Looks.fails(3, BOX), Looks.fails(5, BLIND), Looks.fails(5, RAISED));
    }

    private static void labels() {
        Looks.Arg[] label = Looks.args(Looks.good(0), Looks.good(NO_LABEL - 1), Looks.fails(1, -1),
                Looks.fails(1, NO_LABEL));
        Looks.Arg[] labelOfFull = Looks.args(Looks.good(0), Looks.fails(1, -1), Looks.fails(1, 60));
        Looks.Arg[] category = Looks.args(Looks.good(0), Looks.good(7), Looks.fails(1, -1), Looks.fails(1, 8));
        Looks.Arg[] level = Looks.args(Looks.good(0), Looks.good(4), Looks.fails(1, -1), Looks.fails(1, 5));
        looks.all(OrderTest::world, (k, a) -> k.label(a[0], a[1], a[2]), label, category, level);
        // The label wanted here is missing: 1 everywhere, but STAR in category 3.
        Looks.Arg[] three = Looks.args(Looks.good(3), Looks.fails(1, -1), Looks.fails(1, 8));
        Looks.Arg[] star = Looks.args(Looks.good(4), Looks.fails(1, -1), Looks.fails(1, 5));
        looks.allIn(6, OrderTest::worldWithoutLabels, (k, a) -> k.label(a[0], a[1], a[2]), labelOfFull, three, star);
        looks.all(OrderTest::world, (k, a) -> k.level(a[0], a[1]), label, category);
        looks.all(OrderTest::world, (k, a) -> k.fits(a[0], a[1], false) ? 1 : 0, label, label);
        looks.all(OrderTest::world, (k, a) -> k.fits(a[0], a[1], true) ? 1 : 0, label, label);
    }

    private static void category() {
        looks.all(OrderTest::world, (k, a) -> k.category(a[0]), themselves());
        looks.allIn(6, OrderTest::worldWithoutCategories, (k, a) -> k.category(a[0]), themselves());
        looks.allIn(6, OrderTest::worldWithoutLabels, (k, a) -> k.category(a[0]), themselves());
    }

    /** In all worlds that a new object may be made in or not; the last two arguments are a label and another number. */
    private static void made(Looks.Called call, Looks.Arg[] label, Looks.Arg[] other) {
        Looks.Arg[] boxes = Looks.args(Looks.good(BOX), Looks.good(ROOT), Looks.fails(2, 0), Looks.fails(2, GONE),
                Looks.fails(2, 61), Looks.fails(3, SEGMENT), Looks.fails(3, T), Looks.fails(5, LOW_BOX),
                Looks.fails(5, HIGH_BOX), Looks.fails(6, FULL_BOX));
        looks.all(OrderTest::world, call, changing(), boxes, label, other);
        looks.allIn(6, OrderTest::worldWithoutNumbers, call, changing(), boxes, label, other);
        Looks.Arg[] deepThreads = Looks.args(Looks.good(T), Looks.fails(2, 61), Looks.fails(3, DEEPEST));
        Looks.Arg[] deepBoxes = Looks.args(Looks.good(DEEPEST - 1), Looks.fails(6, DEEPEST), Looks.fails(2, 60),
                Looks.fails(3, T));
        Looks.Arg[] deepLabels = Looks.args(Looks.good(0), Looks.fails(1, 60));
        looks.all(OrderTest::deepWorld, call, deepThreads, deepBoxes, deepLabels, Looks.args(Looks.good(1)));
    }

    private static Looks.Arg[] labelsWithoutStar() {
        return Looks.args(Looks.good(0), Looks.good(UP), Looks.fails(1, -1), Looks.fails(1, NO_LABEL),
                Looks.fails(1, STAR_OF_OTHER), Looks.fails(1, OWN_STAR), Looks.fails(5, DOWN), Looks.fails(5, TOP));
    }

    private static Looks.Arg[] labelsWithStar() {
        return Looks.args(Looks.good(0), Looks.good(UP), Looks.good(OWN_STAR), Looks.fails(1, -1),
                Looks.fails(1, NO_LABEL), Looks.fails(5, STAR_OF_OTHER), Looks.fails(5, DOWN), Looks.fails(5, TOP));
    }

    private static void container() {
        made((k, a) -> k.container(a[0], a[1], a[2], a[3]), labelsWithoutStar(),
                Looks.args(Looks.good(1), Looks.fails(1, 0), Looks.fails(1, 201), Looks.fails(6, 200)));
    }

    private static void segment() {
        made((k, a) -> k.segment(a[0], a[1], a[2], a[3]), labelsWithoutStar(),
                Looks.args(Looks.good(1), Looks.good(8), Looks.fails(1, 0), Looks.fails(1, 9)));
    }

    private static void gate() {
        made((k, a) -> k.gate(a[0], a[1], a[2], a[3], -5), labelsWithStar(),
                Looks.args(Looks.good(1), Looks.good(DOWN), Looks.fails(1, -1), Looks.fails(1, NO_LABEL),
                        Looks.fails(1, STAR_OF_OTHER), Looks.fails(1, OWN_STAR)));
    }

    private static void thread() {
        made((k, a) -> k.thread(a[0], a[1], a[2], a[3]), labelsWithStar(),
                Looks.args(Looks.good(1), Looks.good(OWN_CLEARANCE), Looks.fails(1, -1), Looks.fails(1, NO_LABEL),
                        Looks.fails(1, STAR_OF_OTHER), Looks.fails(1, OWN_STAR), Looks.fails(5, DOWN),
                        Looks.fails(5, CLEARANCE_TOP)));
    }

    private static Looks.Arg[] cells() {
        return Looks.args(Looks.good(0), Looks.good(1), Looks.fails(1, -1), Looks.fails(1, 8), Looks.fails(4, 2),
                Looks.fails(4, 7));
    }

    /** Container and segment, the second wrong in more than one way where the container's fault comes later. */
    private static Looks.Arg[] segments(Looks.Arg low) {
        return Looks.args(Looks.good(BOX, SEGMENT), Looks.good(LOW_BOX, IN_LOW), low,
                Looks.fails(2, 0, SEGMENT), Looks.fails(2, 61, SEGMENT), Looks.fails(2, BOX, 0),
                Looks.fails(2, BOX, GONE), Looks.fails(2, BOX, 61), Looks.fails(2, SEGMENT, GONE),
                Looks.fails(2, GONE, GATE), Looks.fails(2, HIGH_BOX, -1),
                Looks.fails(3, SEGMENT, SEGMENT), Looks.fails(3, T, SEGMENT), Looks.fails(3, BOX, GATE),
                Looks.fails(3, ROOT, BOX), Looks.fails(3, ROOT, GATE), Looks.fails(3, HIGH_BOX, GATE_IN_HIGH),
                Looks.fails(4, ROOT, SEGMENT), Looks.fails(4, LOW_BOX, SEGMENT), Looks.fails(4, HIGH_BOX, SEGMENT),
                Looks.fails(5, BOX, HIGH_SEGMENT), Looks.fails(5, HIGH_BOX, IN_HIGH));
    }

    private static void read() {
        looks.all(OrderTest::world, (k, a) -> k.read(a[0], a[1], a[2], a[3]), seeing(),
                segments(Looks.good(BOX, LOW_SEGMENT)), cells());
    }

    private static void write() {
        looks.all(OrderTest::world, (k, a) -> k.write(a[0], a[1], a[2], a[3], 5), changing(),
                segments(Looks.fails(5, BOX, LOW_SEGMENT)), cells());
        LabelKernel k = world();
        for (Checks.Call refused : new Checks.Call[] {() -> k.write(RAISED, BOX, SEGMENT, 0, 5),
            () -> k.write(BLIND, BOX, SEGMENT, 0, 5), () -> k.write(T, BOX, SEGMENT, 2, 5),
            () -> k.write(T, ROOT, SEGMENT, 0, 5), () -> k.write(T, BOX, SEGMENT, 8, 5)}) {
            c.due(true, Checks.outcome(refused).startsWith("java"));
            c.due(0, () -> k.read(T, BOX, SEGMENT, 0));
            c.due(0, () -> k.read(T, BOX, SEGMENT, 1));
        }
    }

    /** Container and object of any kind, for the calls that want no kind. */
    private static Looks.Arg[] things(Looks.Arg... more) {
        Looks.Arg[] few = {Looks.good(BOX, SEGMENT), Looks.good(BOX, GATE), Looks.fails(2, 0, SEGMENT),
            Looks.fails(2, 61, SEGMENT), Looks.fails(2, BOX, GONE), Looks.fails(2, SEGMENT, 61),
            Looks.fails(3, SEGMENT, SEGMENT), Looks.fails(3, T, BOX), Looks.fails(4, ROOT, SEGMENT),
            Looks.fails(4, HIGH_BOX, SEGMENT), Looks.fails(4, ROOT, ROOT), Looks.fails(5, LOW_BOX, IN_LOW),
            Looks.fails(5, HIGH_BOX, IN_HIGH)};
        return Stream.concat(Arrays.stream(few), Arrays.stream(more)).toArray(Looks.Arg[]::new);
    }

    private static void move() {
        looks.all(OrderTest::world, (k, a) -> k.move(a[0], a[1], a[2], a[3]), changing(),
                things(Looks.fails(5, BOX, HIGH_SEGMENT), Looks.fails(5, BOX, LOW_SEGMENT)),
                Looks.args(Looks.good(0), Looks.good(1), Looks.fails(1, -201), Looks.fails(1, 201),
                        Looks.fails(6, 200), Looks.fails(6, -200), Looks.fails(6, -1)));
    }

    private static void drop() {
        looks.all(OrderTest::world, (k, a) -> k.drop(a[0], a[1], a[2]), changing(),
                things(Looks.good(BOX, HIGH_SEGMENT), Looks.good(BOX, LOW_SEGMENT), Looks.good(ROOT, HIGH_BOX)));
    }

    private static void become() {
        looks.all(OrderTest::world, (k, a) -> k.become(a[0], a[1]), themselves(),
                Looks.args(Looks.good(OWN_STAR), Looks.good(0), Looks.good(UP), Looks.fails(1, -1),
                        Looks.fails(1, NO_LABEL), Looks.fails(5, DOWN), Looks.fails(5, TOP),
                        Looks.fails(5, STAR_OF_OTHER)));
    }

    private static void lower() {
        looks.all(OrderTest::world, (k, a) -> k.lower(a[0], a[1]), themselves(),
                Looks.args(Looks.good(OWN_CLEARANCE), Looks.good(0), Looks.good(1), Looks.fails(1, -1),
                        Looks.fails(1, NO_LABEL), Looks.fails(1, STAR_OF_OTHER), Looks.fails(1, OWN_STAR),
                        Looks.fails(5, DOWN), Looks.fails(5, CLEARANCE_TOP)));
    }

    private static void enter() {
        Looks.Arg[] gates = Looks.args(Looks.good(BOX, GATE), Looks.good(LOW_BOX, GATE_IN_LOW),
                Looks.fails(2, 0, GATE), Looks.fails(2, 61, GATE), Looks.fails(2, BOX, GONE),
                Looks.fails(2, SEGMENT, 61), Looks.fails(3, SEGMENT, GATE), Looks.fails(3, BOX, SEGMENT),
                Looks.fails(3, ROOT, SEGMENT), Looks.fails(3, ROOT, T), Looks.fails(4, ROOT, GATE),
                Looks.fails(4, HIGH_BOX, GATE), Looks.fails(5, BOX, STRICT_GATE), Looks.fails(5, HIGH_BOX, GATE_IN_HIGH));
        looks.all(OrderTest::world, (k, a) -> k.enter(a[0], a[1], a[2], a[3], a[4]), seeing(), gates,
                Looks.args(Looks.good(0), Looks.good(OWN_STAR), Looks.fails(1, -1), Looks.fails(1, NO_LABEL),
                        Looks.fails(5, DOWN), Looks.fails(5, TOP), Looks.fails(5, STAR_OF_OTHER)),
                Looks.args(Looks.good(1), Looks.good(OWN_CLEARANCE), Looks.fails(1, -1), Looks.fails(1, NO_LABEL),
                        Looks.fails(1, OWN_STAR), Looks.fails(5, DOWN), Looks.fails(5, CLEARANCE_TOP)));
    }

    private static void object() {
        looks.all(OrderTest::world, (k, a) -> k.object(a[0], a[1]),
                Looks.args(Looks.good(ROOT), Looks.good(T), Looks.good(SEGMENT), Looks.good(GATE),
                        Looks.fails(2, -1), Looks.fails(2, 0), Looks.fails(2, GONE), Looks.fails(2, 60),
                        Looks.fails(2, 61)),
                Looks.args(Looks.good(0), Looks.good(6), Looks.fails(1, -1), Looks.fails(1, 7)));
    }

    private static void in() {
        looks.all(OrderTest::world, (k, a) -> k.in(a[0], a[1]),
                Looks.args(Looks.good(ROOT), Looks.good(LOW_BOX), Looks.fails(2, 0), Looks.fails(2, GONE),
                        Looks.fails(2, 61), Looks.fails(3, T), Looks.fails(3, SEGMENT), Looks.fails(3, GATE)),
                Looks.args(Looks.good(0), Looks.good(1), Looks.fails(4, -1), Looks.fails(4, 60)));
    }

    /** Promise 26: an object's number out of 1 .. 60 is one that is not there, in each place of each call. */
    private static void numbersOutOfRange() {
        for (int o : new int[] {Integer.MIN_VALUE, -60, -1, 0, 61, 62, Integer.MAX_VALUE}) {
            LabelKernel k = world();
            Checks.Call[] calls = {() -> k.category(o), () -> k.become(o, 0), () -> k.lower(o, 0),
                () -> k.container(o, BOX, 0, 1), () -> k.container(T, o, 0, 1), () -> k.segment(o, BOX, 0, 1),
                () -> k.segment(T, o, 0, 1), () -> k.gate(o, BOX, 0, 1, 0), () -> k.gate(T, o, 0, 1, 0),
                () -> k.thread(o, BOX, 0, 1), () -> k.thread(T, o, 0, 1), () -> k.read(o, BOX, SEGMENT, 0),
                () -> k.read(T, o, SEGMENT, 0), () -> k.read(T, BOX, o, 0), () -> k.write(o, BOX, SEGMENT, 0, 1),
                () -> k.write(T, o, SEGMENT, 0, 1), () -> k.write(T, BOX, o, 0, 1), () -> k.move(o, BOX, SEGMENT, 0),
                () -> k.move(T, o, SEGMENT, 0), () -> k.move(T, BOX, o, 0), () -> k.drop(o, BOX, SEGMENT),
                () -> k.drop(T, o, SEGMENT), () -> k.drop(T, BOX, o), () -> k.enter(o, BOX, GATE, 0, 1),
                () -> k.enter(T, o, GATE, 0, 1), () -> k.enter(T, BOX, o, 0, 1), () -> k.user(o, 0, 0),
                () -> k.object(o, 0), () -> k.in(o, 0)};
            String before = Dump.brief(k);
            for (Checks.Call call : calls) {
                c.refused(Checks.MISSING, call);
            }
            c.due(before, Dump.brief(k));
        }
    }
}
