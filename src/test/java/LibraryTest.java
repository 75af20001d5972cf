/** Promises 17 to 20: user, login, file, access. */
public final class LibraryTest {
    private static final Checks c = new Checks();

    public static void main(String[] args) {
        userMakesItsThings();
        userLooksAtItsNumbers();
        userLeavesWhatItDid();
        fourUsers();
        loginEntersTheGate();
        passwordsAreAnyNumber();
        loginLooksInOrder();
        loginLeavesItsLabels();
        filesAreMadeAndReplaced();
        fileLooksInOrder();
        fileLeavesWhatItDid();
        accessReadsAndWrites();
        accessLooksInOrder();
        c.end();
    }

    private static void is(LabelKernel k, int o, int... want) {
        for (int i = 0; i < want.length; i++) {
            int what = i;
            c.due(want[i], () -> k.object(o, what));
        }
    }

    /** A kernel whose user 0 has the categories 1 and 2, home 3, directory 4 and gate 5. */
    private static LabelKernel withUser() {
        LabelKernel k = new LabelKernel();
        k.category(2);
        k.user(2, 0, 11);
        return k;
    }

    private static void userMakesItsThings() {
        LabelKernel k = new LabelKernel();
        k.category(2);
        c.due(4, () -> k.count(1));
        c.due(3, () -> k.user(2, 2, -7));
        c.due(1, () -> k.count(3));
        c.due(3, () -> k.count(2));
        // Two labels for each category, two for the home, two for the gate.
        c.due(12, () -> k.count(1));
        is(k, 3, 0, 9, 40, 6, 1, -1, 0);
        is(k, 4, 1, 9, 5, 5, 3, -1, 4);
        is(k, 5, 2, 11, 2, 2, 1, 7, 0);
        int[] first = {1, 3, 1, 1, 1, 1, 1, 1};
        int[] home = {1, 3, 0, 1, 1, 1, 1, 1};
        int[] half = {1, 4, 1, 1, 1, 1, 1, 1};
        int[] gate = {1, 4, 4, 1, 1, 1, 1, 1};
        for (int i = 0; i < 8; i++) {
            int category = i;
            c.due(first[i], () -> k.level(8, category));
            c.due(home[i], () -> k.level(9, category));
            c.due(half[i], () -> k.level(10, category));
            c.due(gate[i], () -> k.level(11, category));
        }
        // The guard is label 1: 2 in a category is let in, 3 is not. The entry is the user.
        int high = k.thread(2, 1, k.label(0, 7, 2), 1);
        int owning = k.label(k.object(high, 1), 1, 4);
        c.due(2, () -> k.enter(high, 1, 5, owning, k.object(2, 5)));
        k.category(2);
        int top = k.thread(2, 1, k.label(0, 3, 3), k.object(2, 5));
        c.refused(Checks.FORBIDDEN, () -> k.enter(top, 1, 5, k.label(k.object(top, 1), 1, 4), k.object(2, 5)));
        for (int i = 0; i < 4; i++) {
            int cell = i;
            c.due(0, () -> k.read(2, 3, 4, cell));
        }
    }

    private static void userLooksAtItsNumbers() {
        LabelKernel k = withUser();
        int[] bad = {-1, 4, 0, Integer.MAX_VALUE, Integer.MIN_VALUE};
        for (int user : bad) {
            c.refused(Checks.BAD, () -> k.user(99, user, 1));
        }
        c.refused(Checks.MISSING, () -> k.user(99, 1, 1));
        c.refused(Checks.BAD, () -> k.user(1, 1, 1));
        c.due(3, () -> k.count(2));
        c.due(12, () -> k.count(1));
        c.due(1, () -> k.count(3));
    }

    private static void userLeavesWhatItDid() {
        // No room for the home: two categories and the home's labels stay.
        LabelKernel k = new LabelKernel();
        k.category(2);
        k.container(2, 1, 0, 158);
        c.refused(Checks.FULL, () -> k.user(2, 0, 1));
        c.due(3, () -> k.count(2));
        c.due(10, () -> k.count(1));
        c.due(3, () -> k.count(0));
        c.due(0, () -> k.count(3));
        // Room for the home but not for the gate: home, directory and all labels stay.
        k.move(2, 1, 3, -1);
        c.refused(Checks.FULL, () -> k.user(2, 0, 1));
        c.due(5, () -> k.count(2));
        c.due(5, () -> k.count(0));
        c.due(18, () -> k.count(1));
        c.due(40, () -> k.object(4, 2));
        c.due(6, () -> k.object(4, 3));
        c.due(0, () -> k.count(3));
        c.refused(Checks.MISSING, () -> k.login(2, 0, 1));
        k.drop(2, 1, 3);
        c.due(6, () -> k.user(2, 0, 1));
        c.due(7, () -> k.count(2));
        c.refused(Checks.FULL, () -> k.user(2, 1, 1));
        c.due(8, () -> k.count(2));
        c.due(1, () -> k.count(3));

        // No number left for the directory.
        LabelKernel last = new LabelKernel();
        Checks.useNumbers(last, 59);
        c.refused(Checks.FULL, () -> last.user(2, 0, 1));
        c.due(3, () -> last.count(0));
        c.due(0, () -> last.object(60, 0));

        // A thread that may not change object 1 gets its categories all the same.
        LabelKernel raised = new LabelKernel();
        raised.become(2, raised.label(0, 7, 2));
        c.refused(Checks.FORBIDDEN, () -> raised.user(2, 0, 1));
        c.due(2, () -> raised.count(2));
        c.due(0, () -> raised.count(3));
    }

    private static void fourUsers() {
        LabelKernel k = new LabelKernel();
        for (int i = 0; i < 4; i++) {
            int user = 3 - i;
            int home = 3 + 3 * i;
            c.due(home, () -> k.user(2, user, 100 + user));
        }
        c.due(4, () -> k.count(3));
        c.due(8, () -> k.count(2));
        int plain = k.thread(2, 1, 0, 0);
        for (int i = 0; i < 4; i++) {
            int user = i;
            int number = 16 + i;
            c.due(number, () -> k.file(2, user, user, 1 + user));
            c.due(3 + 3 * (3 - user), () -> k.object(number, 4));
            c.refused(Checks.FORBIDDEN, () -> k.login(plain, user, 100 + (user + 1) % 4));
        }
        c.due(3, () -> k.login(plain, 3, 103));
        c.due(0, () -> k.access(plain, 3, 3, 0, true, 1));
        c.refused(Checks.FORBIDDEN, () -> k.access(plain, 2, 2, 0, false, 1));
        c.due(2, () -> k.login(plain, 2, 102));
        c.due(0, () -> k.access(plain, 2, 2, 0, false, 1));
        c.due(1, () -> k.access(plain, 3, 3, 0, false, 1));
    }

    private static void loginEntersTheGate() {
        LabelKernel k = withUser();
        int t = k.thread(2, 1, k.label(0, 7, 2), 1);
        c.due(13, () -> k.count(1));
        c.due(0, () -> k.login(t, 0, 11));
        c.due(14, () -> k.object(t, 1));
        c.due(16, () -> k.object(t, 5));
        c.due(17, () -> k.count(1));
        // Label r, label w, then clearance r, clearance w.
        int[][] want = {{1, 4, 1, 1, 1, 1, 1, 2}, {1, 4, 4, 1, 1, 1, 1, 2}, {2, 3, 2, 2, 2, 2, 2, 2},
            {2, 3, 3, 2, 2, 2, 2, 2}};
        for (int i = 0; i < 4; i++) {
            for (int j = 0; j < 8; j++) {
                int label = 13 + i;
                int category = j;
                c.due(want[i][j], () -> k.level(label, category));
            }
        }
        c.due(0, () -> k.login(t, 0, 11));
        c.due(17, () -> k.count(1));
        // A thread above the guard may not log in.
        k.category(2);
        int top = k.thread(2, 1, k.label(0, 3, 3), k.object(2, 5));
        c.refused(Checks.FORBIDDEN, () -> k.login(top, 0, 11));
        // Nor one that is below the gate's label in another category.
        int down = k.thread(2, 1, k.label(0, 3, 0), 1);
        c.refused(Checks.FORBIDDEN, () -> k.login(down, 0, 11));
    }

    private static void passwordsAreAnyNumber() {
        for (int password : new int[] {0, -1, Integer.MAX_VALUE, Integer.MIN_VALUE}) {
            LabelKernel k = new LabelKernel();
            k.user(2, 3, password);
            int plain = k.thread(2, 1, 0, 1);
            c.refused(Checks.FORBIDDEN, () -> k.login(plain, 3, password + 1));
            c.refused(Checks.FORBIDDEN, () -> k.login(plain, 3, password - 1));
            c.refused(Checks.FORBIDDEN, () -> k.login(plain, 3, ~password));
            c.due(0, () -> k.object(plain, 1));
            c.due(3, () -> k.login(plain, 3, password));
            // A user made anew after a crash has the new password alone.
            k.crash();
            k.user(2, 3, password + 1);
            c.refused(Checks.FORBIDDEN, () -> k.login(2, 3, password));
            c.due(3, () -> k.login(2, 3, password + 1));
        }
    }

    private static void loginLooksInOrder() {
        LabelKernel k = withUser();
        int[] bad = {-1, 4, Integer.MAX_VALUE, Integer.MIN_VALUE};
        for (int user : bad) {
            c.refused(Checks.BAD, () -> k.login(99, user, 1));
        }
        c.refused(Checks.MISSING, () -> k.login(1, 1, 11));
        c.refused(Checks.FORBIDDEN, () -> k.login(99, 0, 12));
        c.refused(Checks.FORBIDDEN, () -> k.login(1, 0, 0));
        c.refused(Checks.MISSING, () -> k.login(99, 0, 11));
        c.refused(Checks.BAD, () -> k.login(1, 0, 11));
        c.due(12, () -> k.count(1));
    }

    private static void loginLeavesItsLabels() {
        LabelKernel k = withUser();
        int t = k.thread(2, 1, k.label(0, 7, 2), 1);
        k.drop(2, 1, 5);
        c.refused(Checks.MISSING, () -> k.login(t, 0, 11));
        c.due(17, () -> k.count(1));
        c.due(12, () -> k.object(t, 1));

        // Room for three of the four labels.
        LabelKernel full = withUser();
        int u = full.thread(2, 1, full.label(0, 7, 2), 1);
        Checks.fillLabels(full, 57);
        c.refused(Checks.FULL, () -> full.login(u, 0, 11));
        c.due(60, () -> full.count(1));
        c.due(12, () -> full.object(u, 1));
        c.due(1, () -> full.object(u, 5));
        c.due(3, () -> full.level(59, 1));
    }

    private static void filesAreMadeAndReplaced() {
        LabelKernel k = withUser();
        c.due(6, () -> k.file(2, 0, 0, 3));
        is(k, 6, 1, 9, 4, 4, 3, -1, 3);
        c.due(6, () -> k.read(2, 3, 4, 0));
        c.due(7, () -> k.file(2, 0, 3, 8));
        c.due(7, () -> k.read(2, 3, 4, 3));
        c.due(6, () -> k.read(2, 3, 4, 0));
        c.due(0, () -> k.access(2, 0, 0, 1, true, 9));
        c.due(8, () -> k.file(2, 0, 0, 3));
        c.refused(Checks.MISSING, () -> k.object(6, 0));
        c.due(0, () -> k.access(2, 0, 0, 1, false, 0));
        c.due(19, () -> k.object(3, 3));
        c.due(9, () -> k.file(2, 0, 1, 8));
        c.due(10, () -> k.file(2, 0, 0, 8));
        c.due(33, () -> k.object(3, 3));
        c.refused(Checks.FULL, () -> k.file(2, 0, 2, 7));
        c.due(11, () -> k.file(2, 0, 2, 6));
        c.due(40, () -> k.object(3, 3));
        // The old file goes first, so its room is there for the new one.
        c.due(12, () -> k.file(2, 0, 0, 8));
        c.due(40, () -> k.object(3, 3));
    }

    private static void fileLooksInOrder() {
        LabelKernel k = withUser();
        int[] bad = {-1, 4, Integer.MAX_VALUE, Integer.MIN_VALUE};
        for (int number : bad) {
            c.refused(Checks.BAD, () -> k.file(99, number, 0, 1));
            c.refused(Checks.BAD, () -> k.file(99, 1, number, 1));
        }
        int[] badCells = {0, 9, -1, Integer.MAX_VALUE, Integer.MIN_VALUE};
        for (int n : badCells) {
            c.refused(Checks.BAD, () -> k.file(99, 1, 0, n));
        }
        c.refused(Checks.MISSING, () -> k.file(1, 1, 0, 1));
        c.refused(Checks.MISSING, () -> k.file(99, 0, 0, 1));
        c.refused(Checks.BAD, () -> k.file(1, 0, 0, 1));
        int plain = k.thread(2, 1, 0, 1);
        c.refused(Checks.FORBIDDEN, () -> k.file(plain, 0, 0, 1));
        k.login(plain, 0, 11);
        c.due(7, () -> k.file(plain, 0, 0, 1));
        // One who may see but not change: r owned, w not.
        int reader = k.thread(2, 1, k.label(0, 1, 4), k.object(2, 5));
        c.refused(Checks.FORBIDDEN, () -> k.file(reader, 0, 1, 1));
        c.refused(Checks.FORBIDDEN, () -> k.file(reader, 0, 0, 1));
        c.due(0, () -> k.access(reader, 0, 0, 0, false, 0));
        c.refused(Checks.FORBIDDEN, () -> k.access(reader, 0, 0, 0, true, 0));
        k.drop(2, 1, 3);
        c.refused(Checks.MISSING, () -> k.file(2, 0, 0, 1));
        c.due(1, () -> k.count(3));
    }

    private static void fileLeavesWhatItDid() {
        // No number left: the old file is gone all the same, and the directory still names it.
        LabelKernel k = withUser();
        k.file(2, 0, 1, 2);
        Checks.useNumbers(k, 60);
        c.due(6, () -> k.count(0));
        c.refused(Checks.FULL, () -> k.file(2, 0, 1, 2));
        c.due(5, () -> k.count(0));
        c.due(6, () -> k.read(2, 3, 4, 1));
        c.refused(Checks.MISSING, () -> k.access(2, 0, 1, 0, false, 0));
        c.refused(Checks.MISSING, () -> k.file(2, 0, 1, 2));

        // A directory that names itself is dropped; the new segment stays in the home.
        LabelKernel own = withUser();
        own.write(2, 3, 4, 2, 4);
        c.refused(Checks.MISSING, () -> own.file(2, 0, 2, 1));
        c.refused(Checks.MISSING, () -> own.object(4, 0));
        c.due(6, () -> own.in(3, 0));
        c.due(1, () -> own.object(6, 6));
        c.refused(Checks.MISSING, () -> own.file(2, 0, 0, 1));
        c.due(1, () -> own.count(3));

        // A directory that names what is not in the home.
        LabelKernel other = withUser();
        other.write(2, 3, 4, 2, 5);
        c.refused(Checks.MISSING, () -> other.file(2, 0, 2, 1));
        other.write(2, 3, 4, 2, -3);
        c.refused(Checks.MISSING, () -> other.file(2, 0, 2, 1));
        c.due(5, () -> other.count(0));

        // A thread in the home that drops itself by the file that it makes.
        LabelKernel self = withUser();
        int t = self.thread(2, 3, self.object(2, 1), self.object(2, 5));
        self.write(2, 3, 4, 0, t);
        c.refused(Checks.MISSING, () -> self.file(t, 0, 0, 1));
        c.due(5, () -> self.count(0));
    }

    private static void accessReadsAndWrites() {
        LabelKernel k = withUser();
        k.file(2, 0, 0, 8);
        k.file(2, 0, 3, 2);
        c.due(0, () -> k.access(2, 0, 0, 7, true, 42));
        c.due(42, () -> k.access(2, 0, 0, 7, true, Integer.MIN_VALUE));
        c.due(Integer.MIN_VALUE, () -> k.access(2, 0, 0, 7, false, 5));
        c.due(Integer.MIN_VALUE, () -> k.access(2, 0, 0, 7, false, 5));
        c.due(Integer.MIN_VALUE, () -> k.read(2, 3, 6, 7));
        c.due(0, () -> k.access(2, 0, 3, 1, false, 0));
        c.due(0, () -> k.access(2, 0, 3, 1, true, 3));
        c.due(3, () -> k.read(2, 3, 7, 1));
        // The directory may name any segment in the home, itself too.
        k.write(2, 3, 4, 1, 4);
        c.due(6, () -> k.access(2, 0, 1, 0, false, 0));
    }

    private static void accessLooksInOrder() {
        LabelKernel k = withUser();
        k.file(2, 0, 0, 2);
        int[] bad = {-1, 4, Integer.MAX_VALUE, Integer.MIN_VALUE};
        for (int number : bad) {
            c.refused(Checks.BAD, () -> k.access(99, number, 0, 0, false, 0));
            c.refused(Checks.BAD, () -> k.access(99, 1, number, 0, true, 0));
        }
        c.refused(Checks.MISSING, () -> k.access(1, 1, 0, 0, false, 0));
        c.refused(Checks.MISSING, () -> k.access(99, 0, 0, 0, false, 0));
        c.refused(Checks.BAD, () -> k.access(1, 0, 0, 0, false, 0));
        c.refused(Checks.MISSING, () -> k.access(2, 0, 1, 0, false, 0));
        c.refused(Checks.MISSING, () -> k.access(2, 0, 1, 0, true, 0));
        c.refused(Checks.MISSING, () -> k.access(2, 0, 0, 2, false, 0));
        c.refused(Checks.MISSING, () -> k.access(2, 0, 0, 7, true, 0));
        // The cell's range is that of read and write, which come after the user and the directory.
        c.refused(Checks.BAD, () -> k.access(2, 0, 0, 8, false, 0));
        c.refused(Checks.BAD, () -> k.access(2, 0, 0, -1, true, 0));
        c.refused(Checks.MISSING, () -> k.access(2, 1, 0, 8, false, 0));
        c.refused(Checks.MISSING, () -> k.access(2, 0, 1, 8, false, 0));
        int plain = k.thread(2, 1, 0, 1);
        c.refused(Checks.FORBIDDEN, () -> k.access(plain, 0, 0, 0, false, 0));
        c.refused(Checks.FORBIDDEN, () -> k.access(plain, 0, 1, 8, true, 0));
        k.write(2, 3, 4, 1, k.thread(2, 3, 0, 1));
        c.refused(Checks.BAD, () -> k.access(2, 0, 1, 0, false, 0));
    }
}
