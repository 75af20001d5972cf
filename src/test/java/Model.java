import java.util.ArrayList;
import java.util.List;
import java.util.NoSuchElementException;
import java.util.TreeMap;

/**
 * The document once more, written as plainly as can be and held quite differently: labels are lists, objects a tree
 * of nodes, a snapshot a copy of all. A test compares it with the program.
 */
final class Model {
    private static final int STAR = 4;

    private static final class Node {
        int number;
        int kind;
        int label;
        int quota;
        Node place;
        int clearance = -1;
        int guard;
        int entry;
        int[] cells = {};
        final TreeMap<Integer, Node> inside = new TreeMap<>();

        int use() {
            int sum = kind == 1 ? 1 + cells.length : kind == 0 ? 1 : 2;
            for (Node child : inside.values()) {
                sum += child.quota;
            }
            return sum;
        }

        int deep() {
            return place == null ? 0 : place.deep() + 1;
        }

        int all() {
            int n = 1;
            for (Node child : inside.values()) {
                n += child.all();
            }
            return n;
        }

        Node find(int wanted) {
            if (number == wanted) {
                return this;
            }
            for (Node child : inside.values()) {
                Node found = child.find(wanted);
                if (found != null) {
                    return found;
                }
            }
            return null;
        }

        Node copy(Node itsPlace) {
            Node n = new Node();
            n.number = number;
            n.kind = kind;
            n.label = label;
            n.quota = quota;
            n.place = itsPlace;
            n.clearance = clearance;
            n.guard = guard;
            n.entry = entry;
            n.cells = cells.clone();
            for (Node child : inside.values()) {
                n.inside.put(child.number, child.copy(n));
            }
            return n;
        }
    }

    private record User(int password, int r, int w, int home, int directory, int gate) {
    }

    private List<List<Integer>> labels = new ArrayList<>();
    private Node root;
    private int made;
    private int categories;
    private TreeMap<Integer, User> users = new TreeMap<>();
    private Model kept;

    Model() {
        labels.add(List.of(1, 1, 1, 1, 1, 1, 1, 1));
        labels.add(List.of(2, 2, 2, 2, 2, 2, 2, 2));
        root = new Node();
        root.number = 1;
        root.quota = 200;
        Node thread = new Node();
        thread.number = 2;
        thread.kind = 3;
        thread.quota = 2;
        thread.clearance = 1;
        thread.place = root;
        root.inside.put(2, thread);
        made = 2;
    }

    private Model(Model other) {
        takeFrom(other);
    }

    private void takeFrom(Model other) {
        labels = new ArrayList<>(other.labels);
        root = other.root.copy(null);
        made = other.made;
        categories = other.categories;
        users = new TreeMap<>(other.users);
    }

    // ---- the six looks

    private static void look(int number, boolean good) {
        if (good) {
            return;
        }
        switch (number) {
            case 1:
            case 3:
                throw new IllegalArgumentException();
            case 2:
            case 4:
                throw new NoSuchElementException();
            case 5:
                throw new UnsupportedOperationException();
            default:
                throw new IllegalStateException();
        }
    }

    private boolean isLabel(int label) {
        return 0 <= label && label < labels.size();
    }

    private boolean isPlain(int label) {
        return isLabel(label) && !labels.get(label).contains(STAR);
    }

    private Node there(int o) {
        Node found = root.find(o);
        look(2, o >= 1 && o <= 60 && found != null);
        return found;
    }

    private static int low(int level) {
        return level == STAR ? -1 : level;
    }

    private boolean under(int a, int b) {
        for (int i = 0; i < 8; i++) {
            if (low(labels.get(a).get(i)) > low(labels.get(b).get(i))) {
                return false;
            }
        }
        return true;
    }

    private boolean high(int a, int b) {
        for (int i = 0; i < 8; i++) {
            int its = labels.get(b).get(i);
            if (its != STAR && low(labels.get(a).get(i)) > its) {
                return false;
            }
        }
        return true;
    }

    private boolean sees(Node t, Node o) {
        return high(o.label, t.label);
    }

    private boolean changes(Node t, Node o) {
        return sees(t, o) && under(t.label, o.label);
    }

    private boolean starsOf(int label, int owner) {
        for (int i = 0; i < 8; i++) {
            if (labels.get(label).get(i) == STAR && labels.get(owner).get(i) != STAR) {
                return false;
            }
        }
        return true;
    }

    // ---- the calls

    int label(int label, int category, int level) {
        look(1, isLabel(label) && category >= 0 && category <= 7 && level >= 0 && level <= 4);
        List<Integer> wanted = new ArrayList<>(labels.get(label));
        wanted.set(category, level);
        if (!labels.contains(wanted)) {
            look(6, labels.size() < 60);
            labels.add(wanted);
        }
        return labels.indexOf(wanted);
    }

    int level(int label, int category) {
        look(1, isLabel(label) && category >= 0 && category <= 7);
        return labels.get(label).get(category);
    }

    int fits(int a, int b, boolean isHigh) {
        look(1, isLabel(a) && isLabel(b));
        return (isHigh ? high(a, b) : under(a, b)) ? 1 : 0;
    }

    int category(int t) {
        Node thread = there(t);
        look(3, thread.kind == 3);
        look(6, categories < 8);
        List<List<Integer>> before = new ArrayList<>(labels);
        try {
            int label = label(thread.label, categories, STAR);
            int clearance = label(thread.clearance, categories, 3);
            thread.label = label;
            thread.clearance = clearance;
        } catch (IllegalStateException e) {
            labels = before;
            throw e;
        }
        return categories++;
    }

    private Node make(int t, int d, int label, int kind, int quota, int clearance) {
        Node thread = there(t);
        Node box = there(d);
        look(3, thread.kind == 3 && box.kind == 0);
        look(5, changes(thread, box) && under(thread.label, label) && under(label, thread.clearance));
        look(5, starsOf(label, thread.label));
        if (kind == 3) {
            look(5, under(clearance, thread.clearance) && under(label, clearance));
        }
        look(6, box.quota >= box.use() + quota && made < 60 && box.deep() + 1 <= 12);
        Node o = new Node();
        o.number = ++made;
        o.kind = kind;
        o.label = label;
        o.quota = quota;
        o.place = box;
        o.clearance = kind == 2 ? thread.clearance : clearance;
        box.inside.put(o.number, o);
        return o;
    }

    int container(int t, int d, int label, int quota) {
        look(1, isPlain(label) && quota >= 1 && quota <= 200);
        return make(t, d, label, 0, quota, -1).number;
    }

    int segment(int t, int d, int label, int n) {
        look(1, isPlain(label) && n >= 1 && n <= 8);
        Node o = make(t, d, label, 1, 1 + n, -1);
        o.cells = new int[n];
        return o.number;
    }

    int gate(int t, int d, int label, int guard, int entry) {
        look(1, isLabel(label) && isPlain(guard));
        Node o = make(t, d, label, 2, 2, -1);
        o.guard = guard;
        o.entry = entry;
        return o.number;
    }

    int thread(int t, int d, int label, int clearance) {
        look(1, isLabel(label) && isPlain(clearance));
        return make(t, d, label, 3, 2, clearance).number;
    }

    /** Thread, container and object, of the kind wanted if it is not below 0, the one in the other. */
    private Node[] named(int t, int d, int o, int kind) {
        Node[] all = {there(t), there(d), there(o)};
        look(3, all[0].kind == 3 && all[1].kind == 0 && (kind < 0 || all[2].kind == kind));
        look(4, all[2].place == all[1]);
        return all;
    }

    int read(int t, int d, int o, int i) {
        look(1, i >= 0 && i <= 7);
        Node[] all = named(t, d, o, 1);
        look(4, i < all[2].cells.length);
        look(5, sees(all[0], all[1]) && sees(all[0], all[2]));
        return all[2].cells[i];
    }

    int write(int t, int d, int o, int i, int v) {
        look(1, i >= 0 && i <= 7);
        Node[] all = named(t, d, o, 1);
        look(4, i < all[2].cells.length);
        look(5, sees(all[0], all[1]) && changes(all[0], all[2]));
        int old = all[2].cells[i];
        all[2].cells[i] = v;
        return old;
    }

    int move(int t, int d, int o, int n) {
        look(1, n >= -200 && n <= 200);
        Node[] all = named(t, d, o, -1);
        look(5, changes(all[0], all[1]) && changes(all[0], all[2]));
        all[2].quota += n;
        boolean room = all[2].quota >= all[2].use() && all[1].quota >= all[1].use();
        all[2].quota -= room ? 0 : n;
        look(6, room);
        return all[2].quota;
    }

    int drop(int t, int d, int o) {
        Node[] all = named(t, d, o, -1);
        look(5, changes(all[0], all[1]));
        all[1].inside.remove(o);
        return all[2].all();
    }

    int become(int t, int label) {
        look(1, isLabel(label));
        Node thread = there(t);
        look(3, thread.kind == 3);
        look(5, under(thread.label, label) && under(label, thread.clearance) && starsOf(label, thread.label));
        thread.label = label;
        return 0;
    }

    int lower(int t, int clearance) {
        look(1, isPlain(clearance));
        Node thread = there(t);
        look(3, thread.kind == 3);
        look(5, under(clearance, thread.clearance) && under(thread.label, clearance));
        thread.clearance = clearance;
        return 0;
    }

    int enter(int t, int d, int g, int label, int clearance) {
        look(1, isLabel(label) && isPlain(clearance));
        Node[] all = named(t, d, g, 2);
        Node thread = all[0];
        Node gate = all[2];
        look(5, sees(thread, all[1]) && under(thread.label, gate.guard) && under(label, clearance));
        for (int i = 0; i < 8; i++) {
            int its = level(label, i);
            int own = level(thread.label, i);
            int gates = level(gate.label, i);
            look(5, its == STAR ? own == STAR || gates == STAR : its >= Math.max(low(own), low(gates)));
            look(5, level(clearance, i) <= Math.max(level(thread.clearance, i), level(gate.clearance, i)));
        }
        thread.label = label;
        thread.clearance = clearance;
        return gate.entry;
    }

    int user(int t, int user, int password) {
        look(1, user >= 0 && user <= 3 && !users.containsKey(user));
        int r = category(t);
        int w = category(t);
        int p = label(label(0, r, 3), w, 0);
        int home = container(t, 1, p, 40);
        int directory = segment(t, home, p, 4);
        int gate = gate(t, 1, label(label(0, r, STAR), w, STAR), 1, user);
        users.put(user, new User(password, r, w, home, directory, gate));
        return home;
    }

    int login(int t, int user, int password) {
        look(1, user >= 0 && user <= 3);
        look(2, users.containsKey(user));
        User u = users.get(user);
        look(5, u.password() == password);
        Node thread = there(t);
        look(3, thread.kind == 3);
        int label = label(label(thread.label, u.r(), STAR), u.w(), STAR);
        int clearance = label(label(thread.clearance, u.r(), 3), u.w(), 3);
        return enter(t, 1, u.gate(), label, clearance);
    }

    int file(int t, int user, int name, int n) {
        look(1, user >= 0 && user <= 3 && name >= 0 && name <= 3 && n >= 1 && n <= 8);
        look(2, users.containsKey(user));
        User u = users.get(user);
        int old = read(t, u.home(), u.directory(), name);
        if (old != 0) {
            drop(t, u.home(), old);
        }
        int made = segment(t, u.home(), there(u.home()).label, n);
        write(t, u.home(), u.directory(), name, made);
        return made;
    }

    int access(int t, int user, int name, int i, boolean write, int v) {
        look(1, user >= 0 && user <= 3 && name >= 0 && name <= 3);
        look(2, users.containsKey(user));
        User u = users.get(user);
        int file = read(t, u.home(), u.directory(), name);
        look(2, file != 0);
        return write ? write(t, u.home(), file, i, v) : read(t, u.home(), file, i);
    }

    int snapshot() {
        kept = new Model(this);
        return root.all();
    }

    int crash() {
        takeFrom(kept == null ? new Model() : kept);
        return root.all();
    }

    int object(int o, int what) {
        look(1, what >= 0 && what <= 6);
        Node n = there(o);
        int[] answers = {n.kind, n.label, n.quota, n.use(), n.place == null ? 0 : n.place.number, n.clearance,
            n.cells.length};
        return answers[what];
    }

    int in(int d, int k) {
        Node box = there(d);
        look(3, box.kind == 0);
        look(4, k >= 0 && k < box.inside.size());
        return new ArrayList<>(box.inside.keySet()).get(k);
    }

    int count(int what) {
        int[] answers = {root.all(), labels.size(), categories, users.size()};
        return what >= 0 && what <= 3 ? answers[what] : -1;
    }
}
