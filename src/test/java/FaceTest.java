import java.io.IOException;
import java.lang.reflect.Constructor;
import java.lang.reflect.Field;
import java.lang.reflect.Method;
import java.lang.reflect.Modifier;
import java.nio.file.Files;
import java.nio.file.Path;
import java.util.ArrayList;
import java.util.Arrays;
import java.util.List;
import java.util.Set;
import java.util.TreeSet;
import java.util.regex.Matcher;
import java.util.regex.Pattern;

/** The class has the document's face and no other, and keeps to those rules of the language that a look can tell. */
public final class FaceTest {
    private static final Checks c = new Checks();
    private static final String FOUR = "IllegalArgumentException, NoSuchElementException,"
            + " UnsupportedOperationException, IllegalStateException";
    private static final String[] CALLS = {
        "int label(int label, int category, int level)", "int level(int label, int category)",
        "boolean fits(int a, int b, boolean high)", "int category(int t)",
        "int container(int t, int d, int label, int quota)", "int segment(int t, int d, int label, int n)",
        "int gate(int t, int d, int label, int guard, int entry)",
        "int thread(int t, int d, int label, int clearance)", "int read(int t, int d, int o, int i)",
        "int write(int t, int d, int o, int i, int v)", "int move(int t, int d, int o, int n)",
        "int drop(int t, int d, int o)", "int become(int t, int label)", "int lower(int t, int clearance)",
        "int enter(int t, int d, int g, int label, int clearance)", "int user(int t, int user, int password)",
        "int login(int t, int user, int password)", "int file(int t, int user, int name, int n)",
        "int access(int t, int user, int name, int i, boolean write, int v)", "int object(int o, int what)",
        "int in(int d, int k)"};
    private static final String[] QUIET = {"int snapshot()", "int crash()", "int count(int what)"};
    private static final Set<Class<?>> CONSTANTS = Set.of(int.class, long.class, boolean.class, char.class,
            String.class);

    private static String source;
    private static List<Class<?>> classes;

    public static void main(String[] args) throws IOException {
        source = Files.readString(Path.of("src/main/java/LabelKernel.java"));
        classes = new ArrayList<>(List.of(LabelKernel.class));
        classes.addAll(Arrays.asList(LabelKernel.class.getDeclaredClasses()));
        face();
        faceAsItIsWritten();
        nothingElseIsSeen();
        noPrivateMethodHasAPublicName();
        sizes();
        words();
        library();
        exceptions();
        c.end();
    }

    private static String text(Method m) {
        List<String> types = new ArrayList<>();
        for (Class<?> type : m.getParameterTypes()) {
            types.add(type.getSimpleName());
        }
        List<String> thrown = new ArrayList<>();
        for (Class<?> type : m.getExceptionTypes()) {
            thrown.add(type.getSimpleName());
        }
        return (m.getReturnType().getSimpleName() + " " + m.getName() + "(" + String.join(", ", types) + ") "
                + String.join(", ", thrown)).trim();
    }

    private static String withoutNames(String call) {
        return call.replaceAll("(int|boolean) \\w+([,)])", "$1$2");
    }

    private static void face() {
        TreeSet<String> want = new TreeSet<>();
        for (String call : QUIET) {
            want.add(withoutNames(call));
        }
        for (String call : CALLS) {
            want.add(withoutNames(call) + " " + FOUR);
        }
        TreeSet<String> got = new TreeSet<>();
        for (Method m : LabelKernel.class.getDeclaredMethods()) {
            if (Modifier.isPublic(m.getModifiers())) {
                got.add(text(m));
                c.due(false, Modifier.isStatic(m.getModifiers()));
            }
        }
        c.due(want.toString(), got.toString());
        c.due(true, Modifier.isFinal(LabelKernel.class.getModifiers()));
        c.due(true, Modifier.isPublic(LabelKernel.class.getModifiers()));
        c.due(1, () -> LabelKernel.class.getConstructors().length);
        c.due("", LabelKernel.class.getPackageName());
    }

    /** Parameters bear the document's names, which no class file tells. */
    private static void faceAsItIsWritten() {
        String oneLine = source.replaceAll("\\s+", " ");
        for (String call : QUIET) {
            c.due(true, oneLine.contains(" public " + call + " {"));
        }
        for (String call : CALLS) {
            c.due(true, oneLine.contains(" public " + call + " throws " + FOUR + " {"));
        }
        c.due(true, oneLine.contains(" public LabelKernel() {"));
        c.due(true, oneLine.contains(" public static final int STAR = 4;"));
    }

    private static void nothingElseIsSeen() {
        for (Field f : LabelKernel.class.getDeclaredFields()) {
            boolean star = f.getName().equals("STAR");
            c.due(star, Modifier.isPublic(f.getModifiers()));
            c.due(!star, Modifier.isPrivate(f.getModifiers()));
        }
        for (Method m : LabelKernel.class.getDeclaredMethods()) {
            c.due(true, Modifier.isPublic(m.getModifiers()) || Modifier.isPrivate(m.getModifiers()));
        }
        for (Constructor<?> made : LabelKernel.class.getDeclaredConstructors()) {
            c.due(0, () -> made.getParameterCount());
        }
        for (Class<?> inside : LabelKernel.class.getDeclaredClasses()) {
            c.due(true, Modifier.isStatic(inside.getModifiers()) && Modifier.isPrivate(inside.getModifiers()));
        }
    }

    private static void noPrivateMethodHasAPublicName() {
        TreeSet<String> names = new TreeSet<>();
        for (Method m : LabelKernel.class.getMethods()) {
            names.add(m.getName());
        }
        for (Class<?> one : classes) {
            for (Method m : one.getDeclaredMethods()) {
                c.due(true, Modifier.isPublic(m.getModifiers()) || !names.contains(m.getName()));
            }
        }
    }

    /** Rules 5 and 11: static fields, fields, parameters, classes, lines of a method. */
    private static void sizes() {
        c.due(true, classes.size() <= 12);
        for (Class<?> one : classes) {
            int fields = 0;
            for (Field f : one.getDeclaredFields()) {
                boolean isStatic = Modifier.isStatic(f.getModifiers());
                c.due(true, !isStatic || Modifier.isFinal(f.getModifiers()) && CONSTANTS.contains(f.getType()));
                fields += isStatic ? 0 : 1;
            }
            c.due(true, fields <= 20);
            for (Method m : one.getDeclaredMethods()) {
                c.due(true, m.getParameterCount() <= 7);
            }
        }
        // Methods stand apart by empty lines, so no stretch without one is longer than a method may be.
        for (String stretch : source.split("\n\\s*\n")) {
            c.due(true, stretch.split("\n").length <= 60);
        }
    }

    private static void words() {
        int imports = 0;
        for (String line : source.split("\n")) {
            if (line.startsWith("import ")) {
                imports++;
                c.due("import java.util.NoSuchElementException;", line);
            }
            c.due(true, !line.startsWith("package "));
        }
        int found = imports;
        c.due(1, () -> found);
        String[] never = {"->", "::", " try ", "catch", "finally", "assert", "synchronized", "static {", "Exact("};
        for (String word : never) {
            c.due(false, source.contains(word));
        }
        c.due(true, source.chars().allMatch(character -> character < 128));
    }

    /** Rule 4: of the library, the program uses System.arraycopy alone. */
    private static void library() {
        Matcher used = Pattern.compile("\\b[A-Z]\\w*\\.\\w+").matcher(source.replaceAll("//.*|/\\*\\*[^/]*\\*/", ""));
        while (used.find()) {
            c.due("System.arraycopy", used.group());
        }
        Matcher made = Pattern.compile("new (\\w+)[(\\[]").matcher(source);
        Set<String> own = Set.of("State", "Labels", "Things", "Users", "int", "boolean");
        while (made.find()) {
            String name = made.group(1);
            c.due(true, own.contains(name) || FOUR.contains(name));
        }
    }

    /** Rule 6: a throw has the written form, and stands in one of the methods that look, never in a constructor. */
    private static void exceptions() {
        Pattern head = Pattern.compile(" {4}(?: {4})?[\\w\\[\\] ]*\\b(\\w+)\\(.*\\).*");
        String method = "";
        for (String line : source.split("\n")) {
            Matcher found = head.matcher(line);
            if (found.matches() && !line.endsWith(";")) {
                method = found.group(1);
            }
            if (line.contains("throw ")) {
                c.due(true, line.matches(" +throw new (" + FOUR.replace(", ", "|") + ")\\(\\);"));
                c.due(true, method.startsWith("need"));
            }
        }
    }
}
