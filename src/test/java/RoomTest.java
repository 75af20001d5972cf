/**
 * Room: the last label, object, category and user there is room for, the last piece of a QUOTA, the deepest place; and
 * the first of each that is one too many.
 */
public final class RoomTest {
    private static final Checks c = new Checks();

    interface Maker {
        int make(LabelKernel k, int d);
    }

    public static void main(String[] args) {
        labelsOfUser();
        labelsOfUserWhoseThreadOwnsMore();
        labelsOfLogin();
        labelsThatAreThereNeedNoRoom();
        numbersAreNeverGivenAnew();
        numbersOfUser();
        numbersOfFile();
        categoriesOfUser();
        quotaOfEveryKind();
        quotaOfTheFirstContainer();
        quotaIsCountedNotUse();
        quotaOfUser();
        quotaOfFile();
        quotaThatMoves();
        quotaThatADropGivesBack();
        depth();
        crashGivesRoomBack();
        c.end();
    }

    /** Labels, categories, objects and users that there are. */
    private static void has(LabelKernel k, int labels, int categories, int objects, int users) {
        c.due(labels, () -> k.count(1));
        c.due(categories, () -> k.count(2));
        c.due(objects, () -> k.count(0));
        c.due(users, () -> k.count(3));
    }

    /** What a user call leaves, with so many labels before it: labels, categories, objects, users. */
    private static void userWith(LabelKernel k, int before, int... left) {
        Checks.fillLabels(k, before);
        c.due(before, () -> k.count(1));
        if (left[3] == 1) {
            c.due(3, () -> k.user(2, 0, 5));
        } else {
            c.refused(Checks.FULL, () -> k.user(2, 0, 5));
        }
        has(k, left[0], left[1], left[2], left[3]);
    }

    private static void labelsOfUser() {
        // Six are made: two for each category, two for the home; the gate's are the thread's by then.
        userWith(new LabelKernel(), 54, 60, 2, 5, 1);
        // The home's label lacks room; what it is made from has it.
        userWith(new LabelKernel(), 55, 60, 2, 2, 0);
        userWith(new LabelKernel(), 56, 60, 2, 2, 0);
        // The second category needs two labels: one is not made if the other has no room.
        userWith(new LabelKernel(), 57, 59, 1, 2, 0);
        userWith(new LabelKernel(), 58, 60, 1, 2, 0);
        userWith(new LabelKernel(), 59, 59, 0, 2, 0);
        userWith(new LabelKernel(), 60, 60, 0, 2, 0);
    }

    private static LabelKernel owning() {
        LabelKernel k = new LabelKernel();
        k.category(2);
        return k;
    }

    private static void labelsOfUserWhoseThreadOwnsMore() {
        userWith(owning(), 52, 60, 3, 5, 1);
        // The gate's labels are made last, when home and directory are there.
        userWith(owning(), 53, 60, 3, 4, 0);
        userWith(owning(), 54, 60, 3, 4, 0);
        userWith(owning(), 55, 60, 3, 2, 0);
        userWith(owning(), 56, 60, 3, 2, 0);
        userWith(owning(), 57, 59, 2, 2, 0);
        userWith(owning(), 58, 60, 2, 2, 0);
        userWith(owning(), 59, 59, 1, 2, 0);
    }

    private static void labelsOfLogin() {
        for (int before = 56; before <= 60; before++) {
            LabelKernel k = new LabelKernel();
            k.user(2, 0, 5);
            int label = k.label(0, 7, 2);
            int clearance = k.label(1, 6, 1);
            int t = k.thread(2, 1, label, clearance);
            Checks.fillLabels(k, before);
            if (before == 56) {
                c.due(0, () -> k.login(t, 0, 5));
                c.due(57, () -> k.object(t, 1));
                c.due(59, () -> k.object(t, 5));
            } else {
                c.refused(Checks.FULL, () -> k.login(t, 0, 5));
                c.due(label, () -> k.object(t, 1));
                c.due(clearance, () -> k.object(t, 5));
            }
            has(k, 60, 2, 6, 1);
        }
    }

    private static void labelsThatAreThereNeedNoRoom() {
        LabelKernel k = new LabelKernel();
        k.user(2, 0, 5);
        int t = k.thread(2, 1, 0, 1);
        int again = k.thread(2, 1, 0, 1);
        k.login(t, 0, 5);
        Checks.fillLabels(k, 60);
        c.due(0, () -> k.login(again, 0, 5));
        c.due(k.object(t, 1), () -> k.object(again, 1));
        c.due(60, () -> k.count(1));
        c.due(1, () -> k.label(1, 7, 2));
        c.refused(Checks.FULL, () -> k.label(1, 0, 0));
    }

    private static void numbersAreNeverGivenAnew() {
        LabelKernel k = new LabelKernel();
        c.due(3, () -> k.segment(2, 1, 0, 1));
        c.due(4, () -> k.segment(2, 1, 0, 1));
        k.drop(2, 1, 4);
        k.drop(2, 1, 3);
        c.due(5, () -> k.segment(2, 1, 0, 1));
        // A call that fails uses up no number.
        c.refused(Checks.FULL, () -> k.container(2, 1, 0, 200));
        c.refused(Checks.FORBIDDEN, () -> k.segment(2, 1, k.label(0, 0, 0), 1));
        c.due(6, () -> k.gate(2, 1, 0, 0, 0));
        Checks.useNumbers(k, 59);
        c.due(4, () -> k.count(0));
        c.due(60, () -> k.thread(2, 1, 0, 0));
        c.refused(Checks.FULL, () -> k.segment(2, 1, 0, 1));
        c.due(3, () -> k.object(60, 0));
        c.due(5, () -> k.count(0));
    }

    private static void numbersOfUser() {
        for (int used = 57; used <= 60; used++) {
            LabelKernel k = new LabelKernel();
            Checks.useNumbers(k, used);
            if (used == 57) {
                c.due(58, () -> k.user(2, 0, 5));
                c.due(59, () -> k.in(58, 0));
                c.due(60, () -> k.in(1, 2));
                has(k, 8, 2, 5, 1);
            } else {
                c.refused(Checks.FULL, () -> k.user(2, 0, 5));
                has(k, 8, 2, 62 - used, 0);
            }
        }
    }

    private static void numbersOfFile() {
        LabelKernel k = new LabelKernel();
        k.user(2, 0, 5);
        Checks.useNumbers(k, 59);
        c.due(60, () -> k.file(2, 0, 0, 8));
        c.refused(Checks.FULL, () -> k.file(2, 0, 1, 1));
        c.due(0, () -> k.read(2, 3, 4, 1));
        c.due(60, () -> k.read(2, 3, 4, 0));
        c.due(6, () -> k.count(0));
        // One that replaces another needs a new number too, and the other is gone by then.
        c.refused(Checks.FULL, () -> k.file(2, 0, 0, 8));
        c.due(5, () -> k.count(0));
    }

    private static void categoriesOfUser() {
        for (int given = 6; given <= 8; given++) {
            LabelKernel k = new LabelKernel();
            for (int i = 0; i < given; i++) {
                k.category(2);
            }
            int labels = k.count(1);
            if (given == 6) {
                c.due(3, () -> k.user(2, 3, 5));
                c.due(1, () -> k.count(3));
            } else {
                c.refused(Checks.FULL, () -> k.user(2, 3, 5));
                has(k, labels + 2 * (8 - given), 8, 2, 0);
            }
            c.due(8, () -> k.count(2));
        }
    }

    private static void lastOf(int quota, Maker maker) {
        LabelKernel exact = new LabelKernel();
        exact.container(2, 1, 0, quota + 3);
        exact.segment(2, 3, 0, 1);
        c.due(5, () -> maker.make(exact, 3));
        c.due(quota + 3, () -> exact.object(3, 3));
        c.due(quota, () -> exact.object(5, 2));
        LabelKernel less = new LabelKernel();
        less.container(2, 1, 0, quota + 2);
        less.segment(2, 3, 0, 1);
        c.refused(Checks.FULL, () -> maker.make(less, 3));
        c.due(3, () -> less.object(3, 3));
        c.due(4, () -> less.count(0));
    }

    private static void quotaOfEveryKind() {
        for (int i = 1; i <= 8; i++) {
            int n = i;
            lastOf(n + 1, (k, d) -> k.segment(2, d, 0, n));
        }
        for (int i : new int[] {1, 2, 100, 194}) {
            int quota = i;
            lastOf(quota, (k, d) -> k.container(2, d, 0, quota));
        }
        lastOf(2, (k, d) -> k.gate(2, d, 0, 0, 0));
        lastOf(2, (k, d) -> k.thread(2, d, 0, 0));
        // Its own 1 is of a container's use: a QUOTA of 1 leaves no room for anything.
        LabelKernel k = new LabelKernel();
        k.container(2, 1, 0, 1);
        c.refused(Checks.FULL, () -> k.container(2, 3, 0, 1));
        k.container(2, 1, 0, 2);
        c.due(5, () -> k.container(2, 4, 0, 1));
        c.refused(Checks.FULL, () -> k.container(2, 4, 0, 1));
    }

    private static void quotaOfTheFirstContainer() {
        LabelKernel k = new LabelKernel();
        c.refused(Checks.FULL, () -> k.container(2, 1, 0, 200));
        c.refused(Checks.FULL, () -> k.container(2, 1, 0, 198));
        c.due(3, () -> k.container(2, 1, 0, 197));
        c.due(200, () -> k.object(1, 3));
        c.due(200, () -> k.object(1, 2));
        c.refused(Checks.FULL, () -> k.container(2, 1, 0, 1));
        c.refused(Checks.FULL, () -> k.gate(2, 1, 0, 0, 0));
        c.due(4, () -> k.container(2, 3, 0, 196));
        c.refused(Checks.FULL, () -> k.container(2, 3, 0, 1));
    }

    private static void quotaIsCountedNotUse() {
        LabelKernel k = new LabelKernel();
        k.container(2, 1, 0, 20);
        k.container(2, 3, 0, 10);
        k.segment(2, 4, 0, 3);
        c.due(5, () -> k.object(4, 3));
        c.due(11, () -> k.object(3, 3));
        c.due(23, () -> k.object(1, 3));
        k.move(2, 4, 5, 2);
        c.due(7, () -> k.object(4, 3));
        c.due(4, () -> k.object(5, 3));
        c.due(11, () -> k.object(3, 3));
        c.refused(Checks.FULL, () -> k.container(2, 3, 0, 10));
        c.due(6, () -> k.container(2, 3, 0, 9));
    }

    private static void quotaOfUser() {
        for (int rest = 39; rest <= 42; rest++) {
            LabelKernel k = new LabelKernel();
            k.container(2, 1, 0, 197 - rest);
            if (rest == 42) {
                c.due(4, () -> k.user(2, 0, 5));
                has(k, 8, 2, 6, 1);
                c.due(200, () -> k.object(1, 3));
            } else {
                c.refused(Checks.FULL, () -> k.user(2, 0, 5));
                has(k, 8, 2, rest == 39 ? 3 : 5, 0);
            }
        }
    }

    private static void quotaOfFile() {
        // A home of 40 has 34 left beside its directory.
        LabelKernel k = new LabelKernel();
        k.user(2, 0, 5);
        c.due(6, () -> k.object(3, 3));
        k.file(2, 0, 0, 8);
        k.file(2, 0, 1, 8);
        k.file(2, 0, 2, 8);
        c.due(33, () -> k.object(3, 3));
        c.refused(Checks.FULL, () -> k.file(2, 0, 3, 7));
        c.due(0, () -> k.read(2, 3, 4, 3));
        c.due(9, () -> k.file(2, 0, 3, 6));
        c.due(40, () -> k.object(3, 3));
        c.due(10, () -> k.file(2, 0, 3, 6));
        // The old one is gone before the new one has no room.
        c.refused(Checks.FULL, () -> k.file(2, 0, 3, 7));
        c.refused(Checks.MISSING, () -> k.object(10, 0));
        c.due(10, () -> k.read(2, 3, 4, 3));
        c.due(33, () -> k.object(3, 3));
        // From then on the directory names what is gone.
        c.refused(Checks.MISSING, () -> k.file(2, 0, 3, 1));
        k.write(2, 3, 4, 3, 0);
        c.due(11, () -> k.file(2, 0, 3, 1));
    }

    private static void quotaThatMoves() {
        LabelKernel k = new LabelKernel();
        int d = k.container(2, 1, 0, 20);
        int s = k.segment(2, d, 0, 8);
        c.refused(Checks.FULL, () -> k.move(2, d, s, 11));
        c.due(9, () -> k.object(s, 2));
        c.due(19, () -> k.move(2, d, s, 10));
        c.due(20, () -> k.object(d, 3));
        c.due(20, () -> k.object(d, 2));
        c.refused(Checks.FULL, () -> k.move(2, d, s, -11));
        c.due(9, () -> k.move(2, d, s, -10));
        c.refused(Checks.FULL, () -> k.move(2, 1, d, -11));
        c.due(10, () -> k.move(2, 1, d, -10));
        c.refused(Checks.FULL, () -> k.move(2, 1, d, 188));
        c.due(197, () -> k.move(2, 1, d, 187));
        c.refused(Checks.FULL, () -> k.move(2, 1, 2, 1));
        c.refused(Checks.FULL, () -> k.move(2, 1, 2, -1));
        c.due(2, () -> k.move(2, 1, 2, 0));
        // An empty container's use is 1: a QUOTA of 0 is below it.
        int empty = k.container(2, d, 0, 5);
        c.refused(Checks.FULL, () -> k.move(2, d, empty, -5));
        c.due(1, () -> k.move(2, d, empty, -4));
        c.refused(Checks.FULL, () -> k.move(2, d, empty, -1));
        c.refused(Checks.FULL, () -> k.move(2, d, empty, -200));
        c.refused(Checks.FULL, () -> k.move(2, d, empty, 200));
    }

    private static void quotaThatADropGivesBack() {
        LabelKernel k = new LabelKernel();
        int d = k.container(2, 1, 0, 10);
        int s = k.segment(2, d, 0, 8);
        c.refused(Checks.FULL, () -> k.container(2, d, 0, 1));
        c.due(1, () -> k.drop(2, d, s));
        c.due(1, () -> k.object(d, 3));
        c.refused(Checks.FULL, () -> k.container(2, d, 0, 10));
        c.due(5, () -> k.container(2, d, 0, 9));
        c.due(2, () -> k.drop(2, 1, d));
        c.due(3, () -> k.object(1, 3));
        // Object 2 gives back its own as well, but then no thread is there to use it.
        c.due(1, () -> k.drop(2, 1, 2));
        c.due(1, () -> k.object(1, 3));
        c.due(1, () -> k.count(0));
    }

    private static void depth() {
        LabelKernel k = new LabelKernel();
        int d = 1;
        for (int deep = 1; deep <= 12; deep++) {
            d = k.container(2, d, 0, 160 - 10 * deep);
        }
        int twelfth = d;
        c.due(14, () -> twelfth);
        c.refused(Checks.FULL, () -> k.container(2, twelfth, 0, 1));
        c.refused(Checks.FULL, () -> k.segment(2, twelfth, 0, 1));
        c.refused(Checks.FULL, () -> k.gate(2, twelfth, 0, 0, 0));
        c.refused(Checks.FULL, () -> k.thread(2, twelfth, 0, 0));
        c.due(15, () -> k.container(2, 13, 0, 1));
        c.due(16, () -> k.segment(2, 13, 0, 1));
        c.due(17, () -> k.gate(2, 13, 0, 0, 0));
        c.due(18, () -> k.thread(2, 13, 0, 0));
        // A thread that lies deep makes what lies high, and drops what it is in.
        c.due(19, () -> k.segment(18, 1, 0, 1));
        c.due(16, () -> k.drop(18, 1, 3));
        c.due(3, () -> k.count(0));
    }

    private static void crashGivesRoomBack() {
        LabelKernel k = new LabelKernel();
        Checks.fillLabels(k, 60);
        Checks.useNumbers(k, 60);
        k.crash();
        has(k, 2, 0, 2, 0);
        c.due(2, () -> k.label(0, 0, 4));
        c.due(3, () -> k.container(2, 1, 0, 197));
        for (int i = 0; i < 8; i++) {
            int given = i;
            c.due(given, () -> k.category(2));
        }
        c.refused(Checks.FULL, () -> k.category(2));
        k.snapshot();
        c.due(3, () -> k.crash());
        c.refused(Checks.FULL, () -> k.category(2));
        c.refused(Checks.FULL, () -> k.container(2, 1, 0, 1));
    }
}
