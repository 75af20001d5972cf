import java.util.NoSuchElementException;

/** A kernel whose objects bear labels, and a small library of users with homes and files above it. */
public final class LabelKernel {
    /** The level that owns a category. */
    public static final int STAR = 4;

    private static final int CONTAINER = 0;
    private static final int SEGMENT = 1;
    private static final int GATE = 2;
    private static final int THREAD = 3;

    private static final int CATEGORIES = 8;
    private static final int MOST_LABELS = 60;
    private static final int MOST_OBJECTS = 60;
    private static final int MOST_CELLS = 8;
    private static final int MOST_QUOTA = 200;
    private static final int MOST_DEPTH = 12;
    private static final int USERS = 4;

    private static final int ALL_ONE = 0;
    private static final int ALL_TWO = 1;
    private static final int TOP_LEVEL = 3;
    private static final int NO_LABEL = -1;

    private static final int ROOT = 1;
    private static final int NOTHING = 0;
    private static final int FIXED_QUOTA = 2;
    private static final int HOME_QUOTA = 40;
    private static final int NAMES = 4;

    private final State now;
    private final State kept;
    private final Labels labels;
    private final Things things;
    private final Users users;

    public LabelKernel() {
        now = new State();
        kept = new State();
        labels = now.labels;
        things = now.things;
        users = now.users;
    }

    // ---- labels

    public int label(int label, int category, int level)
            throws IllegalArgumentException, NoSuchElementException, UnsupportedOperationException, IllegalStateException {
        needNumber(labels.has(label) && isBetween(category, 0, CATEGORIES - 1) && isBetween(level, 0, STAR));
        int wanted = labels.changed(label, category, level);
        needRoom(labels.missing(wanted) <= labels.free());
        return labels.numberOf(wanted);
    }

    public int level(int label, int category)
            throws IllegalArgumentException, NoSuchElementException, UnsupportedOperationException, IllegalStateException {
        needNumber(labels.has(label) && isBetween(category, 0, CATEGORIES - 1));
        return labels.levelAt(label, category);
    }

    public boolean fits(int a, int b, boolean high)
            throws IllegalArgumentException, NoSuchElementException, UnsupportedOperationException, IllegalStateException {
        needNumber(labels.has(a) && labels.has(b));
        return high ? labels.fitsHigh(a, b) : labels.fitsUnder(a, b);
    }

    public int category(int t)
            throws IllegalArgumentException, NoSuchElementException, UnsupportedOperationException, IllegalStateException {
        needThread(t);
        needRoom(now.categories < CATEGORIES);
        int given = now.categories;
        int label = labels.changed(things.labelOf(t), given, STAR);
        int clearance = labels.changed(things.clearanceOf(t), given, TOP_LEVEL);
        // Both are counted before either is made: a call that fails leaves no label behind.
        needRoom(labels.missing(label) + labels.missing(clearance) <= labels.free());
        things.setLabel(t, labels.numberOf(label));
        things.setClearance(t, labels.numberOf(clearance));
        now.categories = given + 1;
        return given;
    }

    // ---- new objects

    public int container(int t, int d, int label, int quota)
            throws IllegalArgumentException, NoSuchElementException, UnsupportedOperationException, IllegalStateException {
        needNumber(labels.isStarless(label) && isBetween(quota, 1, MOST_QUOTA));
        needThreadAndContainer(t, d);
        needMayMake(t, d, label);
        needRoomIn(d, quota);
        return things.add(CONTAINER, d, label, quota);
    }

    public int segment(int t, int d, int label, int n)
            throws IllegalArgumentException, NoSuchElementException, UnsupportedOperationException, IllegalStateException {
        needNumber(labels.isStarless(label) && isBetween(n, 1, MOST_CELLS));
        needThreadAndContainer(t, d);
        needMayMake(t, d, label);
        needRoomIn(d, 1 + n);
        int o = things.add(SEGMENT, d, label, 1 + n);
        things.setCellCount(o, n);
        return o;
    }

    public int gate(int t, int d, int label, int guard, int entry)
            throws IllegalArgumentException, NoSuchElementException, UnsupportedOperationException, IllegalStateException {
        needNumber(labels.has(label) && labels.isStarless(guard));
        needThreadAndContainer(t, d);
        needMayMake(t, d, label);
        needRoomIn(d, FIXED_QUOTA);
        int o = things.add(GATE, d, label, FIXED_QUOTA);
        things.setClearance(o, things.clearanceOf(t));
        things.setGuardAndEntry(o, guard, entry);
        return o;
    }

    public int thread(int t, int d, int label, int clearance)
            throws IllegalArgumentException, NoSuchElementException, UnsupportedOperationException, IllegalStateException {
        needNumber(labels.has(label) && labels.isStarless(clearance));
        needThreadAndContainer(t, d);
        needMayMake(t, d, label);
        needAllowed(labels.fitsUnder(clearance, things.clearanceOf(t)));
        needAllowed(labels.fitsUnder(label, clearance));
        needRoomIn(d, FIXED_QUOTA);
        int o = things.add(THREAD, d, label, FIXED_QUOTA);
        things.setClearance(o, clearance);
        return o;
    }

    // ---- objects in containers

    public int read(int t, int d, int o, int i)
            throws IllegalArgumentException, NoSuchElementException, UnsupportedOperationException, IllegalStateException {
        needCell(t, d, o, i);
        needAllowed(maySee(t, d) && maySee(t, o));
        return things.cellOf(o, i);
    }

    public int write(int t, int d, int o, int i, int v)
            throws IllegalArgumentException, NoSuchElementException, UnsupportedOperationException, IllegalStateException {
        needCell(t, d, o, i);
        needAllowed(maySee(t, d) && mayChange(t, o));
        int old = things.cellOf(o, i);
        things.setCell(o, i, v);
        return old;
    }

    public int move(int t, int d, int o, int n)
            throws IllegalArgumentException, NoSuchElementException, UnsupportedOperationException, IllegalStateException {
        needNumber(isBetween(n, -MOST_QUOTA, MOST_QUOTA));
        needObjectIn(t, d, o);
        needAllowed(mayChange(t, d) && mayChange(t, o));
        int quota = things.quotaOf(o) + n;
        needRoom(quota >= things.useOf(o) && things.quotaOf(d) >= things.useOf(d) + n);
        things.setQuota(o, quota);
        return quota;
    }

    public int drop(int t, int d, int o)
            throws IllegalArgumentException, NoSuchElementException, UnsupportedOperationException, IllegalStateException {
        needObjectIn(t, d, o);
        needAllowed(mayChange(t, d));
        return things.removeTree(o);
    }

    // ---- what a thread makes of itself

    public int become(int t, int label)
            throws IllegalArgumentException, NoSuchElementException, UnsupportedOperationException, IllegalStateException {
        needNumber(labels.has(label));
        needThread(t);
        needAllowed(mayBear(t, label));
        things.setLabel(t, label);
        return 0;
    }

    public int lower(int t, int clearance)
            throws IllegalArgumentException, NoSuchElementException, UnsupportedOperationException, IllegalStateException {
        needNumber(labels.isStarless(clearance));
        needThread(t);
        needAllowed(labels.fitsUnder(clearance, things.clearanceOf(t)));
        needAllowed(labels.fitsUnder(things.labelOf(t), clearance));
        things.setClearance(t, clearance);
        return 0;
    }

    public int enter(int t, int d, int g, int label, int clearance)
            throws IllegalArgumentException, NoSuchElementException, UnsupportedOperationException, IllegalStateException {
        needNumber(labels.has(label) && labels.isStarless(clearance));
        needThere(t, d, g);
        needNumber(things.isOfKind(t, THREAD) && things.isOfKind(d, CONTAINER) && things.isOfKind(g, GATE));
        needFound(things.isIn(g, d));
        needAllowed(maySee(t, d) && labels.fitsUnder(things.labelOf(t), things.guardOf(g)));
        needAllowed(labels.isJoinOf(label, things.labelOf(t), things.labelOf(g)));
        needAllowed(labels.fitsUnder(label, clearance));
        needAllowed(labels.isNowhereAboveBoth(clearance, things.clearanceOf(t), things.clearanceOf(g)));
        things.setLabel(t, label);
        things.setClearance(t, clearance);
        return things.entryOf(g);
    }

    // ---- the library: nothing but its own numbers, and calls of the kernel above

    public int user(int t, int user, int password)
            throws IllegalArgumentException, NoSuchElementException, UnsupportedOperationException, IllegalStateException {
        needNumber(isBetween(user, 0, USERS - 1) && !users.isThere(user));
        int r = category(t);
        int w = category(t);
        int personal = label(label(ALL_ONE, r, TOP_LEVEL), w, 0);
        int home = container(t, ROOT, personal, HOME_QUOTA);
        int directory = segment(t, home, personal, NAMES);
        int owning = label(label(ALL_ONE, r, STAR), w, STAR);
        int gate = gate(t, ROOT, owning, ALL_TWO, user);
        users.setCategories(user, r, w);
        users.setObjects(user, home, directory, gate);
        users.add(user, password);
        return home;
    }

    public int login(int t, int user, int password)
            throws IllegalArgumentException, NoSuchElementException, UnsupportedOperationException, IllegalStateException {
        needNumber(isBetween(user, 0, USERS - 1));
        needFound(users.isThere(user));
        needAllowed(users.passwordOf(user) == password);
        needThread(t);
        int r = users.firstCategoryOf(user);
        int w = users.secondCategoryOf(user);
        int owning = label(label(things.labelOf(t), r, STAR), w, STAR);
        int clearance = label(label(things.clearanceOf(t), r, TOP_LEVEL), w, TOP_LEVEL);
        return enter(t, ROOT, users.gateOf(user), owning, clearance);
    }

    public int file(int t, int user, int name, int n)
            throws IllegalArgumentException, NoSuchElementException, UnsupportedOperationException, IllegalStateException {
        needNumber(isBetween(user, 0, USERS - 1) && isBetween(name, 0, NAMES - 1) && isBetween(n, 1, MOST_CELLS));
        needFound(users.isThere(user));
        int home = users.homeOf(user);
        int directory = users.directoryOf(user);
        int old = read(t, home, directory, name);
        if (old != NOTHING) {
            drop(t, home, old);
        }
        int made = segment(t, home, things.labelOf(home), n);
        write(t, home, directory, name, made);
        return made;
    }

    public int access(int t, int user, int name, int i, boolean write, int v)
            throws IllegalArgumentException, NoSuchElementException, UnsupportedOperationException, IllegalStateException {
        needNumber(isBetween(user, 0, USERS - 1) && isBetween(name, 0, NAMES - 1));
        needFound(users.isThere(user));
        int home = users.homeOf(user);
        int found = read(t, home, users.directoryOf(user), name);
        needFound(found != NOTHING);
        return write ? write(t, home, found, i, v) : read(t, home, found, i);
    }

    // ---- snapshots

    public int snapshot() {
        kept.takeFrom(now);
        return things.howMany();
    }

    public int crash() {
        now.takeFrom(kept);
        return things.howMany();
    }

    // ---- looks that no label weighs

    public int object(int o, int what)
            throws IllegalArgumentException, NoSuchElementException, UnsupportedOperationException, IllegalStateException {
        needNumber(isBetween(what, 0, 6));
        needFound(things.isThere(o));
        switch (what) {
            case 0:
                return things.kindOf(o);
            case 1:
                return things.labelOf(o);
            case 2:
                return things.quotaOf(o);
            case 3:
                return things.useOf(o);
            case 4:
                return things.placeOf(o);
            case 5:
                return things.clearanceOf(o);
            default:
                return things.cellCountOf(o);
        }
    }

    public int in(int d, int k)
            throws IllegalArgumentException, NoSuchElementException, UnsupportedOperationException, IllegalStateException {
        needFound(things.isThere(d));
        needNumber(things.isOfKind(d, CONTAINER));
        int o = things.nthIn(d, k);
        needFound(o != NOTHING);
        return o;
    }

    public int count(int what) {
        switch (what) {
            case 0:
                return things.howMany();
            case 1:
                return labels.howMany();
            case 2:
                return now.categories;
            case 3:
                return users.howMany();
            default:
                return -1;
        }
    }

    // ---- what labels allow

    private boolean maySee(int t, int o) {
        return labels.fitsHigh(things.labelOf(o), things.labelOf(t));
    }

    private boolean mayChange(int t, int o) {
        return maySee(t, o) && labels.fitsUnder(things.labelOf(t), things.labelOf(o));
    }

    /** The same rule holds for the label that a thread takes and for those of the objects that it makes. */
    private boolean mayBear(int t, int label) {
        int own = things.labelOf(t);
        return labels.fitsUnder(own, label)
                && labels.fitsUnder(label, things.clearanceOf(t))
                && labels.hasStarsOnlyOf(label, own);
    }

    // ---- what a call looks at

    private static boolean isBetween(int n, int least, int most) {
        return n >= least && n <= most;
    }

    private static void needNumber(boolean good) {
        if (!good) {
            throw new IllegalArgumentException();
        }
    }

    private static void needFound(boolean found) {
        if (!found) {
            throw new NoSuchElementException();
        }
    }

    private static void needAllowed(boolean allowed) {
        if (!allowed) {
            throw new UnsupportedOperationException();
        }
    }

    private static void needRoom(boolean room) {
        if (!room) {
            throw new IllegalStateException();
        }
    }

    private void needThread(int t) {
        needFound(things.isThere(t));
        needNumber(things.isOfKind(t, THREAD));
    }

    private void needThreadAndContainer(int t, int d) {
        needFound(things.isThere(t) && things.isThere(d));
        needNumber(things.isOfKind(t, THREAD) && things.isOfKind(d, CONTAINER));
    }

    private void needThere(int t, int d, int o) {
        needFound(things.isThere(t) && things.isThere(d) && things.isThere(o));
    }

    private void needObjectIn(int t, int d, int o) {
        needThere(t, d, o);
        needNumber(things.isOfKind(t, THREAD) && things.isOfKind(d, CONTAINER));
        needFound(things.isIn(o, d));
    }

    private void needCell(int t, int d, int o, int i) {
        needNumber(isBetween(i, 0, MOST_CELLS - 1));
        needThere(t, d, o);
        needNumber(things.isOfKind(t, THREAD) && things.isOfKind(d, CONTAINER) && things.isOfKind(o, SEGMENT));
        needFound(things.isIn(o, d) && i < things.cellCountOf(o));
    }

    private void needMayMake(int t, int d, int label) {
        needAllowed(mayChange(t, d) && mayBear(t, label));
    }

    private void needRoomIn(int d, int quota) {
        needRoom(things.quotaOf(d) >= things.useOf(d) + quota);
        needRoom(things.hasNumberLeft() && things.depthOf(d) < MOST_DEPTH);
    }

    /** All that a snapshot keeps. */
    private static final class State {
        final Labels labels = new Labels();
        final Things things = new Things();
        final Users users = new Users();
        int categories = 0;

        void takeFrom(State other) {
            labels.takeFrom(other.labels);
            things.takeFrom(other.things);
            users.takeFrom(other.users);
            categories = other.categories;
        }
    }

    /** The labels by number. Each is one int, four bits a category, so that like labels are equal ints. */
    private static final class Labels {
        private static final int BITS = 4;
        private static final int LEVEL_MASK = 15;
        private static final int ONES = 0x11111111;
        private static final int TWOS = 0x22222222;
        // STAR is the one level that has this bit.
        private static final int STARS = 0x44444444;

        private final int[] packed = new int[MOST_LABELS];
        private int size;

        Labels() {
            packed[ALL_ONE] = ONES;
            packed[ALL_TWO] = TWOS;
            size = 2;
        }

        void takeFrom(Labels other) {
            System.arraycopy(other.packed, 0, packed, 0, packed.length);
            size = other.size;
        }

        int howMany() {
            return size;
        }

        int free() {
            return MOST_LABELS - size;
        }

        boolean has(int label) {
            return label >= 0 && label < size;
        }

        boolean isStarless(int label) {
            return has(label) && (packed[label] & STARS) == 0;
        }

        boolean hasStarsOnlyOf(int label, int owner) {
            return (packed[label] & ~packed[owner] & STARS) == 0;
        }

        int levelAt(int label, int category) {
            return packed[label] >>> (BITS * category) & LEVEL_MASK;
        }

        /** A level with STAR as below 0. */
        private static int low(int level) {
            return level == STAR ? -1 : level;
        }

        boolean fitsUnder(int a, int b) {
            for (int c = 0; c < CATEGORIES; c++) {
                if (low(levelAt(a, c)) > low(levelAt(b, c))) {
                    return false;
                }
            }
            return true;
        }

        /** STAR is 4, so b's level as it is counts above 3 already. */
        boolean fitsHigh(int a, int b) {
            for (int c = 0; c < CATEGORIES; c++) {
                if (low(levelAt(a, c)) > levelAt(b, c)) {
                    return false;
                }
            }
            return true;
        }

        /** Whether a label may come of two: STAR only where one has it, elsewhere not below either. */
        boolean isJoinOf(int label, int a, int b) {
            for (int c = 0; c < CATEGORIES; c++) {
                if (!isJoinAt(c, label, a, b)) {
                    return false;
                }
            }
            return true;
        }

        private boolean isJoinAt(int category, int label, int a, int b) {
            int level = levelAt(label, category);
            int atA = levelAt(a, category);
            int atB = levelAt(b, category);
            if (level == STAR) {
                return atA == STAR || atB == STAR;
            }
            return level >= low(atA) && level >= low(atB);
        }

        /** Of clearances alone, which have no STAR. */
        boolean isNowhereAboveBoth(int clearance, int a, int b) {
            for (int c = 0; c < CATEGORIES; c++) {
                int level = levelAt(clearance, c);
                if (level > levelAt(a, c) && level > levelAt(b, c)) {
                    return false;
                }
            }
            return true;
        }

        /** What a label is like with another level in one category; it has no number yet if it is missing. */
        int changed(int label, int category, int level) {
            int shift = BITS * category;
            return packed[label] & ~(LEVEL_MASK << shift) | level << shift;
        }

        private int indexOf(int wanted) {
            for (int n = 0; n < size; n++) {
                if (packed[n] == wanted) {
                    return n;
                }
            }
            return NO_LABEL;
        }

        /** How many labels must be made to have this one: 0 or 1. */
        int missing(int wanted) {
            return indexOf(wanted) == NO_LABEL ? 1 : 0;
        }

        /** The number of a label, made if it is missing; the caller has looked that there is room. */
        int numberOf(int wanted) {
            int n = indexOf(wanted);
            if (n == NO_LABEL && size < MOST_LABELS) {
                n = size;
                packed[n] = wanted;
                size++;
            }
            return n;
        }
    }

    /** The objects by number, one row of each array an object; row 0 is no object. */
    private static final class Things {
        private final boolean[] there = new boolean[MOST_OBJECTS + 1];
        private final int[] kind = new int[MOST_OBJECTS + 1];
        private final int[] label = new int[MOST_OBJECTS + 1];
        private final int[] quota = new int[MOST_OBJECTS + 1];
        private final int[] place = new int[MOST_OBJECTS + 1];
        private final int[] depth = new int[MOST_OBJECTS + 1];
        private final int[] clearance = new int[MOST_OBJECTS + 1];
        private final int[] guard = new int[MOST_OBJECTS + 1];
        private final int[] entry = new int[MOST_OBJECTS + 1];
        private final int[] cellCount = new int[MOST_OBJECTS + 1];
        private final int[] cells = new int[(MOST_OBJECTS + 1) * MOST_CELLS];
        private int made = 0;

        Things() {
            add(CONTAINER, NOTHING, ALL_ONE, MOST_QUOTA);
            int first = add(THREAD, ROOT, ALL_ONE, FIXED_QUOTA);
            setClearance(first, ALL_TWO);
        }

        void takeFrom(Things other) {
            System.arraycopy(other.there, 0, there, 0, there.length);
            System.arraycopy(other.kind, 0, kind, 0, kind.length);
            System.arraycopy(other.label, 0, label, 0, label.length);
            System.arraycopy(other.quota, 0, quota, 0, quota.length);
            System.arraycopy(other.place, 0, place, 0, place.length);
            System.arraycopy(other.depth, 0, depth, 0, depth.length);
            System.arraycopy(other.clearance, 0, clearance, 0, clearance.length);
            System.arraycopy(other.guard, 0, guard, 0, guard.length);
            System.arraycopy(other.entry, 0, entry, 0, entry.length);
            System.arraycopy(other.cellCount, 0, cellCount, 0, cellCount.length);
            System.arraycopy(other.cells, 0, cells, 0, cells.length);
            made = other.made;
        }

        boolean hasNumberLeft() {
            return made < MOST_OBJECTS;
        }

        /** The caller has looked that there is a number left. A number's row is new: no number comes anew. */
        int add(int itsKind, int itsPlace, int itsLabel, int itsQuota) {
            int o = made + 1;
            there[o] = true;
            kind[o] = itsKind;
            label[o] = itsLabel;
            quota[o] = itsQuota;
            place[o] = itsPlace;
            depth[o] = itsPlace == NOTHING ? 0 : depth[itsPlace] + 1;
            clearance[o] = NO_LABEL;
            made = o;
            return o;
        }

        boolean isThere(int o) {
            return o >= 1 && o <= MOST_OBJECTS && there[o];
        }

        boolean isOfKind(int o, int wanted) {
            return kind[o] == wanted;
        }

        boolean isIn(int o, int d) {
            return there[o] && place[o] == d;
        }

        int howMany() {
            int n = 0;
            for (int o = 1; o <= made; o++) {
                if (there[o]) {
                    n++;
                }
            }
            return n;
        }

        int nthIn(int d, int k) {
            int before = 0;
            for (int o = 1; o <= made; o++) {
                if (isIn(o, d)) {
                    if (before == k) {
                        return o;
                    }
                    before++;
                }
            }
            return NOTHING;
        }

        int useOf(int o) {
            switch (kind[o]) {
                case CONTAINER:
                    return 1 + quotasIn(o);
                case SEGMENT:
                    return 1 + cellCount[o];
                default:
                    return FIXED_QUOTA;
            }
        }

        private int quotasIn(int d) {
            int sum = 0;
            for (int o = 1; o <= made; o++) {
                if (isIn(o, d)) {
                    sum += quota[o];
                }
            }
            return sum;
        }

        /** One pass is enough: what is in a container was made after it, so it has a higher number. */
        int removeTree(int top) {
            there[top] = false;
            int gone = 1;
            for (int o = top + 1; o <= made; o++) {
                if (there[o] && !there[place[o]]) {
                    there[o] = false;
                    gone++;
                }
            }
            return gone;
        }

        int kindOf(int o) {
            return kind[o];
        }

        int labelOf(int o) {
            return label[o];
        }

        void setLabel(int o, int its) {
            label[o] = its;
        }

        int quotaOf(int o) {
            return quota[o];
        }

        void setQuota(int o, int its) {
            quota[o] = its;
        }

        int placeOf(int o) {
            return place[o];
        }

        int depthOf(int o) {
            return depth[o];
        }

        int clearanceOf(int o) {
            return clearance[o];
        }

        void setClearance(int o, int its) {
            clearance[o] = its;
        }

        int guardOf(int o) {
            return guard[o];
        }

        int entryOf(int o) {
            return entry[o];
        }

        void setGuardAndEntry(int o, int itsGuard, int itsEntry) {
            guard[o] = itsGuard;
            entry[o] = itsEntry;
        }

        int cellCountOf(int o) {
            return cellCount[o];
        }

        void setCellCount(int o, int n) {
            cellCount[o] = n;
        }

        int cellOf(int o, int i) {
            return cells[o * MOST_CELLS + i];
        }

        void setCell(int o, int i, int v) {
            cells[o * MOST_CELLS + i] = v;
        }
    }

    /** The library's own book: which users there are, and the numbers of what is theirs. */
    private static final class Users {
        private final boolean[] there = new boolean[USERS];
        private final int[] password = new int[USERS];
        private final int[] firstCategory = new int[USERS];
        private final int[] secondCategory = new int[USERS];
        private final int[] home = new int[USERS];
        private final int[] directory = new int[USERS];
        private final int[] gate = new int[USERS];

        void takeFrom(Users other) {
            System.arraycopy(other.there, 0, there, 0, USERS);
            System.arraycopy(other.password, 0, password, 0, USERS);
            System.arraycopy(other.firstCategory, 0, firstCategory, 0, USERS);
            System.arraycopy(other.secondCategory, 0, secondCategory, 0, USERS);
            System.arraycopy(other.home, 0, home, 0, USERS);
            System.arraycopy(other.directory, 0, directory, 0, USERS);
            System.arraycopy(other.gate, 0, gate, 0, USERS);
        }

        int howMany() {
            int n = 0;
            for (int u = 0; u < USERS; u++) {
                if (there[u]) {
                    n++;
                }
            }
            return n;
        }

        boolean isThere(int user) {
            return there[user];
        }

        void add(int user, int itsPassword) {
            there[user] = true;
            password[user] = itsPassword;
        }

        void setCategories(int user, int r, int w) {
            firstCategory[user] = r;
            secondCategory[user] = w;
        }

        void setObjects(int user, int itsHome, int itsDirectory, int itsGate) {
            home[user] = itsHome;
            directory[user] = itsDirectory;
            gate[user] = itsGate;
        }

        int passwordOf(int user) {
            return password[user];
        }

        int firstCategoryOf(int user) {
            return firstCategory[user];
        }

        int secondCategoryOf(int user) {
            return secondCategory[user];
        }

        int homeOf(int user) {
            return home[user];
        }

        int directoryOf(int user) {
            return directory[user];
        }

        int gateOf(int user) {
            return gate[user];
        }
    }
}
