import java.util.ArrayList;
import java.util.List;

/**
 * Every mixture of right and wrong arguments of one call, against what the call looks at first.
 *
 * <p>An argument (or a group of them) comes with the look that it fails, 1 to 6 as the document numbers them, or 0.
 * The due exception is that of the lowest look failed by any of the arguments, or by the world the call is made in.
 */
final class Looks {
    interface World {
        LabelKernel make();
    }

    interface Called {
        long answer(LabelKernel k, int[] a);
    }

    record Arg(int look, int... values) {
    }

    private static final Class<?>[] THROWN = {null, Checks.BAD, Checks.MISSING, Checks.BAD, Checks.MISSING,
        Checks.FORBIDDEN, Checks.FULL};

    private final Checks c;

    Looks(Checks c) {
        this.c = c;
    }

    static Arg good(int... values) {
        return new Arg(0, values);
    }

    static Arg fails(int look, int... values) {
        return new Arg(look, values);
    }

    static Arg[] args(Arg... args) {
        return args;
    }

    /** In a world that fails no look. */
    void all(World world, Called call, Arg[]... lists) {
        allIn(0, world, call, lists);
    }

    /** In a world that lets the call fail a look (6, most times) whatever its arguments are. */
    void allIn(int worldFails, World world, Called call, Arg[]... lists) {
        List<Integer> values = new ArrayList<>();
        mix(worldFails, world, call, lists, 0, values);
    }

    private void mix(int look, World world, Called call, Arg[][] lists, int at, List<Integer> values) {
        if (at == lists.length) {
            judge(look, world, call, values);
            return;
        }
        for (Arg arg : lists[at]) {
            int size = values.size();
            for (int value : arg.values()) {
                values.add(value);
            }
            mix(first(look, arg.look()), world, call, lists, at + 1, values);
            while (values.size() > size) {
                values.remove(values.size() - 1);
            }
        }
    }

    private static int first(int a, int b) {
        return a == 0 ? b : b == 0 ? a : Math.min(a, b);
    }

    private void judge(int look, World world, Called call, List<Integer> values) {
        LabelKernel k = world.make();
        int[] a = values.stream().mapToInt(Integer::intValue).toArray();
        String before = Dump.brief(k);
        String got = Checks.outcome(() -> call.answer(k, a));
        boolean thrown = got.startsWith("java");
        String want = look == 0 ? "no exception" : THROWN[look].getName();
        c.due(values + " " + want, values + " " + (thrown ? got : "no exception"));
        if (thrown) {
            c.due(before, Dump.brief(k));
        }
    }
}
