import java.util.NoSuchElementException;

/** What the tests share: a call's answer or exception against the one that is due. */
final class Checks {
    interface Call {
        long answer();
    }

    static final Class<?> BAD = IllegalArgumentException.class;
    static final Class<?> MISSING = NoSuchElementException.class;
    static final Class<?> FORBIDDEN = UnsupportedOperationException.class;
    static final Class<?> FULL = IllegalStateException.class;

    private int wrong = 0;
    private int checked = 0;

    void due(long want, Call call) {
        judge(String.valueOf(want), outcome(call));
    }

    void due(boolean want, boolean got) {
        judge(String.valueOf(want), String.valueOf(got));
    }

    void due(String want, String got) {
        judge(want, got);
    }

    void refused(Class<?> want, Call call) {
        judge(want.getName(), outcome(call));
    }

    /** Any answer but an exception, or else the exception of a call that labels don't allow. */
    void allowed(boolean want, Call call) {
        String got = outcome(call);
        judge(want ? "allowed" : FORBIDDEN.getName(), got.startsWith("java") ? got : "allowed");
    }

    static String outcome(Call call) {
        try {
            return String.valueOf(call.answer());
        } catch (RuntimeException e) {
            return e.getClass().getName();
        }
    }

    private void judge(String want, String got) {
        checked++;
        if (!want.equals(got)) {
            wrong++;
            System.out.println(place() + ": answered " + got + ", due is " + want);
        }
    }

    private static String place() {
        return StackWalker.getInstance().walk(frames -> frames
                .filter(f -> !f.getClassName().equals("Checks") && !f.getClassName().equals("Looks"))
                .findFirst()
                .map(f -> f.getFileName() + ":" + f.getLineNumber())
                .orElse("?"));
    }

    void end() {
        System.out.println(checked + " answers looked at, " + wrong + " not as due");
        if (wrong != 0 || checked == 0) {
            System.exit(1);
        }
    }

    /** Labels that are 1 in the categories 0 to 4, made until there are so many labels in all. */
    static void fillLabels(LabelKernel k, int total) {
        int have = k.count(1);
        for (int i = 0; i < 64 && have < total; i++) {
            int[] levels = {i / 16, i / 4 % 4, i % 4};
            int label = 0;
            for (int j = 0; j < 3 && have < total; j++) {
                label = k.label(label, 5 + j, levels[j]);
                have = Math.max(have, label + 1);
            }
        }
    }

    /**
     * Segments of one cell in object 1, dropped at once, until the last number made is the one named. No number comes
     * anew, so sixty are enough; the bound lets a test fail, not hang, where that is broken.
     */
    static void useNumbers(LabelKernel k, int last) {
        int made = 0;
        for (int i = 0; i < 60 && made < last; i++) {
            made = k.segment(2, 1, 0, 1);
            k.drop(2, 1, made);
        }
    }
}
