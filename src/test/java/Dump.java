/** All that can be seen of a kernel without a thread, as one text. */
final class Dump {
    private Dump() {
    }

    static String of(LabelKernel k) {
        StringBuilder text = new StringBuilder();
        for (int what = 0; what < 4; what++) {
            text.append(k.count(what)).append(' ');
        }
        for (int o = 1; o <= 60; o++) {
            if (!Checks.outcome(object(k, o, 0)).startsWith("java")) {
                text.append("\n").append(o).append(':');
                for (int what = 0; what < 7; what++) {
                    text.append(' ').append(k.object(o, what));
                }
            }
        }
        for (int label = 0; label < k.count(1); label++) {
            text.append('\n');
            for (int category = 0; category < 8; category++) {
                text.append(k.level(label, category));
            }
        }
        return text.toString();
    }

    /** Without the labels' levels, which never change: few enough looks for an object's 512 calls. */
    static String brief(LabelKernel k) {
        StringBuilder text = new StringBuilder();
        for (int what = 0; what < 4; what++) {
            text.append(k.count(what)).append(' ');
        }
        for (int o = 1; o <= 60; o++) {
            String label = Checks.outcome(object(k, o, 1));
            if (!label.startsWith("java")) {
                text.append('\n').append(o).append(": ").append(label).append(' ').append(k.object(o, 2));
                text.append(' ').append(k.object(o, 3)).append(' ').append(k.object(o, 5));
            }
        }
        return text.toString();
    }

    private static Checks.Call object(LabelKernel k, int o, int what) {
        return () -> k.object(o, what);
    }
}
