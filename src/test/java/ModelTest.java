import java.lang.reflect.InvocationTargetException;
import java.lang.reflect.Method;
import java.lang.reflect.Modifier;
import java.util.ArrayList;
import java.util.HashMap;
import java.util.List;
import java.util.Map;
import java.util.Random;

/** Runs of 512 calls each, with numbers good and bad, answered by the program as by the model of the document. */
public final class ModelTest {
    private static final Checks c = new Checks();
    private static final int RUNS = 1500;
    private static final int CALLS = 512;

    /**
     * The calls, as often as they shall come, with a letter for each argument: t a thread, d a container, o an object,
     * s a segment, g a gate, each of these three with the container that it is in before it, l a label, p a label
     * without STAR; number() tells the others.
     */
    private static final String[] CALLS_AND_ARGUMENTS = {
        "label lcv", "label lcv", "label lcv", "level lc", "fits llb", "category t", "container tdpq",
        "container tdpq", "segment tdpn", "segment tdpn", "gate tdlpe", "gate tdlpe", "thread tdlp", "thread tdlp",
        "read tsi", "read tsi", "write tsie", "write tsie", "read toi", "write toie", "move tom", "move tom",
        "drop ts", "drop to", "become tl", "lower tp", "enter tglp", "enter tglp", "enter tglp", "enter tolp", "user tuy",
        "user tuy", "user tuy", "login tuy", "login tuy", "file tufn", "file tufn", "file tufn", "access tufibe", "access tufibe",
        "access tufibe", "object xw", "object xw", "object xw", "in dk", "count k"};

    private static final Map<String, Method> OF_PROGRAM = methods(LabelKernel.class);
    private static final Map<String, Method> OF_MODEL = methods(Model.class);

    private final Random random;
    private final LabelKernel program = new LabelKernel();
    private final Model model = new Model();

    private ModelTest(int seed) {
        random = new Random(seed);
    }

    public static void main(String[] args) {
        Map<String, Integer> answers = new HashMap<>();
        for (int seed = 0; seed < RUNS; seed++) {
            new ModelTest(seed).run(seed, answers);
        }
        // Calls that are always refused would tell little.
        for (String call : OF_PROGRAM.keySet()) {
            c.due(true, answers.getOrDefault(call, 0) > RUNS / 4);
        }
        c.end();
    }

    private static Map<String, Method> methods(Class<?> type) {
        Map<String, Method> found = new HashMap<>();
        for (Method m : type.getDeclaredMethods()) {
            if (!Modifier.isPrivate(m.getModifiers()) && !m.isSynthetic()) {
                found.put(m.getName(), m);
            }
        }
        return found;
    }

    private void run(int seed, Map<String, Integer> answers) {
        for (int i = 0; i < CALLS; i++) {
            String[] parts = chosen().split(" ", 2);
            Object[] arguments = arguments(parts[1]);
            String where = "run " + seed + " call " + i + ": " + parts[0] + List.of(arguments) + " ";
            String want = outcome(OF_MODEL.get(parts[0]), model, arguments);
            String got = outcome(OF_PROGRAM.get(parts[0]), program, arguments);
            c.due(where + want, where + got);
            if (!want.equals(got)) {
                return;
            }
            if (!want.startsWith("java")) {
                answers.merge(parts[0], 1, Integer::sum);
            }
        }
    }

    private String chosen() {
        if (random.nextInt(100) == 0) {
            return random.nextBoolean() ? "crash " : "snapshot ";
        }
        return CALLS_AND_ARGUMENTS[random.nextInt(CALLS_AND_ARGUMENTS.length)];
    }

    private static String outcome(Method m, Object on, Object[] arguments) {
        try {
            Object answer = m.invoke(on, arguments);
            return answer instanceof Boolean truth ? truth ? "1" : "0" : answer.toString();
        } catch (InvocationTargetException e) {
            return e.getCause().getClass().getName();
        } catch (IllegalAccessException e) {
            throw new AssertionError(e);
        }
    }

    // ---- arguments: most of them lead somewhere, some are at an edge, some beyond it

    private Object[] arguments(String letters) {
        List<Object> all = new ArrayList<>();
        for (char letter : letters.toCharArray()) {
            if (letter == 'o' || letter == 's' || letter == 'g') {
                int o = object(letter == 'o' ? -1 : letter == 's' ? 1 : 2);
                all.add(place(o));
                all.add(o);
            } else if (letter == 'b') {
                all.add(random.nextBoolean());
            } else {
                all.add(number(letter));
            }
        }
        return all.toArray();
    }

    private int number(char letter) {
        if (random.nextInt(60) == 0) {
            int[] wild = {Integer.MIN_VALUE, -201, -1, 0, 4, 5, 8, 9, 59, 60, 61, 201, Integer.MAX_VALUE};
            return wild[random.nextInt(wild.length)];
        }
        switch (letter) {
            case 't': return random.nextInt(3) == 0 ? 2 : object(3);
            case 'd': return random.nextInt(3) == 0 ? 1 : object(0);
            case 'x': return object(-1);
            case 'l': return label(false);
            case 'p': return label(true);
            case 'c': return random.nextInt(3) == 0 ? random.nextInt(8) : random.nextInt(model.count(2) + 1);
            case 'v': return random.nextInt(6) - random.nextInt(2);
            case 'q': return 1 + random.nextInt(random.nextInt(4) == 0 ? 200 : 40);
            case 'n': return random.nextInt(10);
            case 'i': return random.nextInt(3) == 0 ? random.nextInt(10) - 1 : random.nextInt(2);
            case 'm': return random.nextInt(25) - 12;
            case 'u': return random.nextInt(3) == 0 ? random.nextInt(4) : 0;
            case 'f': return random.nextInt(3) == 0 ? random.nextInt(4) : 0;
            case 'y': return random.nextInt(4) / 3;
            case 'w': return random.nextInt(7);
            case 'k': return random.nextInt(5);
            default: return random.nextInt(30);
        }
    }

    /** One that is there, of a kind or of any, most times. */
    private int object(int kind) {
        List<Integer> found = new ArrayList<>();
        collect(1, kind, found);
        if (found.isEmpty() || random.nextInt(25) == 0) {
            return random.nextInt(30);
        }
        return found.get(random.nextInt(found.size()));
    }

    private void collect(int o, int kind, List<Integer> found) {
        if (kind < 0 || model.object(o, 0) == kind) {
            found.add(o);
        }
        for (int i = 0; model.object(o, 0) == 0 && isThere(o, i); i++) {
            collect(model.in(o, i), kind, found);
        }
    }

    private boolean isThere(int d, int k) {
        return !Checks.outcome(() -> model.in(d, k)).startsWith("java");
    }

    private int place(int o) {
        if (random.nextInt(25) == 0 || Checks.outcome(() -> model.object(o, 4)).startsWith("java")) {
            return object(0);
        }
        return model.object(o, 4);
    }

    private int label(boolean plain) {
        for (int tries = 0; tries < 4; tries++) {
            int label = random.nextInt(3) == 0 ? random.nextInt(2) : random.nextInt(model.count(1));
            if (!plain || model.fits(1, label, false) == 1 || tries == 3 || !hasStar(label)) {
                return label;
            }
        }
        return 0;
    }

    private boolean hasStar(int label) {
        for (int category = 0; category < 8; category++) {
            if (model.level(label, category) == LabelKernel.STAR) {
                return true;
            }
        }
        return false;
    }
}
