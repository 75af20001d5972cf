/** All that can be seen of a kernel without a thread, as one text. */
final class Dump {
    private Dump() {
    }

    static String of(LabelKernel k) {
        StringBuilder text = new StringBuilder();
        for (int what = 0; what < 4; what++) {
            text.append(k.count(what)).append(' ');
        }
        for (int o = 1; o <= 60; o++) {
            if (!Checks.outcome(object(k, o, 0)).startsWith("java")) {
                text.append("\n").append(o).append(':');
                for (int what = 0; what < 7; what++) {
                    text.append(' ').append(k.object(o, what));
                }
            }
        }
        for (int label = 0; label < k.count(1); label++) {
            text.append('\n');
            for (int category = 0; category < 8; category++) {
                text.append(k.level(label, category));
            }
        }
        return text.toString();
    }

    private static Checks.Call object(LabelKernel k, int o, int what) {
        return () -> k.object(o, what);
    }
}
