import java.util.ArrayList;
import java.util.List;
import java.util.function.Consumer;
import java.util.function.ToLongFunction;

/**
 * In which order the library looks: each of its calls with every fault alone and with every pair of faults. A ladder
 * has the faults of one call, those that are looked at first on top; of two faults the upper one's exception is due.
 */
public final class LibraryOrderTest {
    private static final Checks c = new Checks();

    private static final int ROOT = 1;
    private static final int OWNER = 2;
    private static final int HOME = 3;
    private static final int DIRECTORY = 4;
    private static final int GATE = 5;
    private static final int FILE = 6;
    private static final int MEMBER = 7;        // a thread that owns r and w
    private static final int READER = 8;        // one that owns r alone
    private static final int STRANGER = 9;      // one that owns neither
    private static final int RAISED = 10;       // one above the gate's GUARD, that may not change object 1
    private static final int BLIND = 11;        // one that may not see object 1
    private static final int HIDDEN = 12;       // a segment in the home that MEMBER may not see
    private static final int IN_HOME = 13;      // a thread
    private static final int OUTSIDE = 14;      // a segment in object 1
    private static final int GONE = 15;

    /** User 0 with a file 0 of two cells, and the arguments of a call that nothing is wrong with. */
    private static final class Scene {
        final LabelKernel k = new LabelKernel();
        int t = MEMBER;
        int user = 0;
        int password = 11;
        int name = 0;
        int n = 3;
        int i = 1;

        Scene() {
            k.user(OWNER, 0, 11);
            k.file(OWNER, 0, 0, 2);
            k.thread(OWNER, ROOT, k.object(OWNER, 1), k.object(OWNER, 5));
            k.thread(OWNER, ROOT, k.label(0, 0, 4), k.object(OWNER, 5));
            k.thread(OWNER, ROOT, k.label(0, 7, 2), 1);
            k.category(OWNER);
            k.thread(OWNER, ROOT, k.label(0, 2, 3), k.object(OWNER, 5));
            k.thread(OWNER, ROOT, k.label(0, 2, 0), 1);
            k.segment(OWNER, HOME, k.label(k.object(HOME, 1), 2, 3), 2);
            k.thread(OWNER, HOME, k.object(OWNER, 1), 1);
            k.segment(OWNER, ROOT, 0, 2);
            k.segment(OWNER, ROOT, 0, 1);
            k.drop(OWNER, ROOT, GONE);
        }

        void nameInDirectory(int value) {
            k.write(OWNER, HOME, DIRECTORY, 0, value);
        }
    }

    /** Two faults in one slot exclude each other. A quiet one stops the call before it has changed anything. */
    private record Fault(String slot, Class<?> thrown, boolean quiet, Consumer<Scene> change) {
    }

    /** The faults of one call, from the top. */
    private static final class Ladder {
        final List<Fault> faults = new ArrayList<>();
        private boolean quiet = true;

        Ladder add(String slot, Class<?> thrown, Consumer<Scene> change) {
            faults.add(new Fault(slot, thrown, quiet, change));
            return this;
        }

        Ladder threads(Class<?> thrown, int... threads) {
            for (int t : threads) {
                add("thread", thrown, s -> s.t = t);
            }
            return this;
        }

        Ladder users(Class<?> thrown, int... users) {
            for (int user : users) {
                add("user", thrown, s -> s.user = user);
            }
            return this;
        }

        Ladder names(int... names) {
            for (int name : names) {
                add("name", Checks.BAD, s -> s.name = name);
            }
            return this;
        }

        Ladder cells(Class<?> thrown, int... cells) {
            for (int i : cells) {
                add("cell", thrown, s -> s.i = i);
            }
            return this;
        }

        /** What the directory names as file 0. */
        Ladder files(Class<?> thrown, int... values) {
            for (int value : values) {
                add("home", thrown, s -> s.nameInDirectory(value));
            }
            return this;
        }

        Ladder homes() {
            add("home", Checks.MISSING, s -> s.k.drop(OWNER, ROOT, HOME));
            return add("home", Checks.MISSING, s -> s.k.drop(OWNER, HOME, DIRECTORY));
        }

        /** From here on the call has done something before it is stopped. */
        Ladder steps() {
            quiet = false;
            return this;
        }

        void check(Consumer<Scene> before, ToLongFunction<Scene> call) {
            Scene right = new Scene();
            before.accept(right);
            c.due(true, !Checks.outcome(() -> call.applyAsLong(right)).startsWith("java"));
            for (int upper = 0; upper < faults.size(); upper++) {
                checkOne(before, call, upper);
                for (int lower = upper + 1; lower < faults.size(); lower++) {
                    if (!faults.get(upper).slot().equals(faults.get(lower).slot())) {
                        checkPair(before, call, upper, lower);
                    }
                }
            }
        }

        private void checkOne(Consumer<Scene> before, ToLongFunction<Scene> call, int only) {
            Scene s = new Scene();
            before.accept(s);
            faults.get(only).change().accept(s);
            judge(s, call, faults.get(only), only + " alone: ");
        }

        private void checkPair(Consumer<Scene> before, ToLongFunction<Scene> call, int upper, int lower) {
            Scene s = new Scene();
            before.accept(s);
            faults.get(upper).change().accept(s);
            faults.get(lower).change().accept(s);
            judge(s, call, faults.get(upper), upper + " with " + lower + ": ");
        }

        private void judge(Scene s, ToLongFunction<Scene> call, Fault first, String which) {
            String state = Dump.brief(s.k);
            c.due(which + first.thrown().getName(), which + Checks.outcome(() -> call.applyAsLong(s)));
            if (first.quiet()) {
                c.due(state, Dump.brief(s.k));
            }
        }
    }

    public static void main(String[] args) {
        scene();
        user();
        login();
        file();
        access();
        c.end();
    }

    private static void scene() {
        LabelKernel k = new Scene().k;
        c.due(GONE - 1, () -> k.count(0));
        c.due(FILE, () -> k.read(OWNER, HOME, DIRECTORY, 0));
        c.due(2, () -> k.object(GATE, 0));
        c.due(1, () -> k.object(HIDDEN, 0));
        c.due(1, () -> k.object(OUTSIDE, 0));
    }

    private static void giveCategories(LabelKernel k, int left) {
        while (k.count(2) < 8 - left) {
            k.category(OWNER);
        }
    }

    private static void fillQuotaOf(LabelKernel k, int d) {
        k.container(OWNER, d, k.object(d, 1), k.object(d, 2) - k.object(d, 3));
    }

    private static void user() {
        new Ladder()
                .users(Checks.BAD, -1, 4, 0, Integer.MAX_VALUE, Integer.MIN_VALUE)
                .threads(Checks.MISSING, -1, 0, GONE, 61)
                .threads(Checks.BAD, ROOT, FILE, GATE)
                .add("categories", Checks.FULL, s -> giveCategories(s.k, 0))
                .steps()
                .add("categories", Checks.FULL, s -> giveCategories(s.k, 1))
                .add("labels", Checks.FULL, s -> Checks.fillLabels(s.k, 60))
                .threads(Checks.FORBIDDEN, RAISED, BLIND)
                .add("room", Checks.FULL, s -> fillQuotaOf(s.k, ROOT))
                .add("room", Checks.FULL, s -> Checks.useNumbers(s.k, 60))
                .check(s -> {
                    s.user = 1;
                    s.t = OWNER;
                }, s -> s.k.user(s.t, s.user, s.password));
    }

    private static void login() {
        new Ladder()
                .users(Checks.BAD, -1, 4, Integer.MAX_VALUE, Integer.MIN_VALUE)
                .users(Checks.MISSING, 1, 2, 3)
                .add("password", Checks.FORBIDDEN, s -> s.password = 10)
                .add("password", Checks.FORBIDDEN, s -> s.password = -11)
                .threads(Checks.MISSING, -1, 0, GONE, 61)
                .threads(Checks.BAD, ROOT, FILE, HOME)
                .add("labels", Checks.FULL, s -> Checks.fillLabels(s.k, 60))
                .steps()
                .add("gate", Checks.MISSING, s -> s.k.drop(OWNER, ROOT, GATE))
                .threads(Checks.FORBIDDEN, RAISED, BLIND)
                .check(s -> s.t = STRANGER, s -> s.k.login(s.t, s.user, s.password));
    }

    private static void file() {
        new Ladder()
                .users(Checks.BAD, -1, 4)
                .names(-1, 4, Integer.MAX_VALUE, Integer.MIN_VALUE)
                .add("n", Checks.BAD, s -> s.n = 0)
                .add("n", Checks.BAD, s -> s.n = 9)
                .users(Checks.MISSING, 1, 3)
                .homes()
                .threads(Checks.MISSING, -1, 0, GONE, 61)
                .threads(Checks.BAD, ROOT, OUTSIDE, GATE)
                .threads(Checks.FORBIDDEN, STRANGER, BLIND)
                .files(Checks.MISSING, GONE, -1, 61, OUTSIDE, MEMBER)
                .threads(Checks.FORBIDDEN, READER)
                .steps()
                .add("home", Checks.FULL, s -> fillQuotaOf(s.k, HOME))
                .add("room", Checks.FULL, s -> Checks.useNumbers(s.k, 60))
                .files(Checks.MISSING, DIRECTORY)
                .check(s -> { }, s -> s.k.file(s.t, s.user, s.name, s.n));
    }

    private static Ladder accessLadder() {
        return new Ladder()
                .users(Checks.BAD, -1, 4)
                .names(-1, 4, Integer.MAX_VALUE, Integer.MIN_VALUE)
                .users(Checks.MISSING, 1, 3)
                .homes()
                .threads(Checks.MISSING, -1, 0, GONE, 61)
                .threads(Checks.BAD, ROOT, OUTSIDE, GATE)
                .threads(Checks.FORBIDDEN, STRANGER, BLIND)
                .files(Checks.MISSING, 0)
                .cells(Checks.BAD, -1, 8, Integer.MAX_VALUE, Integer.MIN_VALUE)
                .files(Checks.MISSING, GONE, -1, 61)
                .files(Checks.BAD, IN_HOME, GATE, HOME)
                .files(Checks.MISSING, OUTSIDE)
                .cells(Checks.MISSING, 2, 7)
                .files(Checks.FORBIDDEN, HIDDEN);
    }

    private static void access() {
        accessLadder().check(s -> { }, s -> s.k.access(s.t, s.user, s.name, s.i, false, 5));
        accessLadder().threads(Checks.FORBIDDEN, READER)
                .check(s -> { }, s -> s.k.access(s.t, s.user, s.name, s.i, true, 5));
        Scene s = new Scene();
        c.due(0, () -> s.k.access(READER, 0, 0, 1, false, 5));
        c.refused(Checks.FORBIDDEN, () -> s.k.access(READER, 0, 0, 1, true, 5));
        c.due(0, () -> s.k.access(MEMBER, 0, 0, 1, true, 5));
        c.due(5, () -> s.k.access(READER, 0, 0, 1, false, 6));
        c.due(5, () -> s.k.read(MEMBER, HOME, FILE, 1));
    }
}
