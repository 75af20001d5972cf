import java.io.IOException;
import java.lang.reflect.Constructor;
import java.lang.reflect.Field;
import java.lang.reflect.Method;
import java.lang.reflect.Modifier;
import java.nio.file.Files;
import java.nio.file.Path;
import java.util.ArrayList;
import java.util.Arrays;
import java.util.List;
import java.util.TreeSet;

/** The class has the document's face and no other, and keeps to those rules of the language that a look can tell. */
public final class FaceTest {
    private static final Checks c = new Checks();
    private static final String FOUR = "IllegalArgumentException NoSuchElementException"
            + " UnsupportedOperationException IllegalStateException";
    private static final String[] CALLS = {
        "int label(int, int, int)", "int level(int, int)", "boolean fits(int, int, boolean)", "int category(int)",
        "int container(int, int, int, int)", "int segment(int, int, int, int)", "int gate(int, int, int, int, int)",
        "int thread(int, int, int, int)", "int read(int, int, int, int)", "int write(int, int, int, int, int)",
        "int move(int, int, int, int)", "int drop(int, int, int)", "int become(int, int)", "int lower(int, int)",
        "int enter(int, int, int, int, int)", "int user(int, int, int)", "int login(int, int, int)",
        "int file(int, int, int, int)", "int access(int, int, int, int, boolean, int)", "int object(int, int)",
        "int in(int, int)"};
    private static final String[] QUIET = {"int snapshot()", "int crash()", "int count(int)"};

    public static void main(String[] args) throws IOException {
        face();
        nothingElseIsSeen();
        noPrivateMethodHasAPublicName();
        words();
        c.end();
    }

    private static String text(Method m) {
        List<String> types = new ArrayList<>();
        for (Class<?> type : m.getParameterTypes()) {
            types.add(type.getSimpleName());
        }
        List<String> thrown = new ArrayList<>();
        for (Class<?> type : m.getExceptionTypes()) {
            thrown.add(type.getSimpleName());
        }
        return (m.getReturnType().getSimpleName() + " " + m.getName() + "(" + String.join(", ", types) + ") "
                + String.join(" ", thrown)).trim();
    }

    private static void face() {
        TreeSet<String> want = new TreeSet<>(Arrays.asList(QUIET));
        for (String call : CALLS) {
            want.add(call + " " + FOUR);
        }
        TreeSet<String> got = new TreeSet<>();
        for (Method m : LabelKernel.class.getDeclaredMethods()) {
            if (Modifier.isPublic(m.getModifiers())) {
                got.add(text(m));
                c.due(false, Modifier.isStatic(m.getModifiers()));
            }
        }
        c.due(want.toString(), got.toString());
        c.due(true, Modifier.isFinal(LabelKernel.class.getModifiers()));
        c.due(1, () -> LabelKernel.class.getConstructors().length);
        c.due("", LabelKernel.class.getPackageName());
    }

    private static void nothingElseIsSeen() {
        for (Field f : LabelKernel.class.getDeclaredFields()) {
            boolean star = f.getName().equals("STAR");
            c.due(star, Modifier.isPublic(f.getModifiers()));
            c.due(!star, Modifier.isPrivate(f.getModifiers()));
        }
        for (Method m : LabelKernel.class.getDeclaredMethods()) {
            c.due(true, Modifier.isPublic(m.getModifiers()) || Modifier.isPrivate(m.getModifiers()));
        }
        for (Constructor<?> made : LabelKernel.class.getDeclaredConstructors()) {
            c.due(0, () -> made.getParameterCount());
        }
        for (Class<?> inside : LabelKernel.class.getDeclaredClasses()) {
            c.due(true, Modifier.isStatic(inside.getModifiers()) && Modifier.isPrivate(inside.getModifiers()));
            for (Field f : inside.getDeclaredFields()) {
                c.due(true, !Modifier.isStatic(f.getModifiers()) || Modifier.isFinal(f.getModifiers()));
            }
            for (Method m : inside.getDeclaredMethods()) {
                c.due(true, m.getParameterCount() <= 7);
            }
        }
    }

    private static void noPrivateMethodHasAPublicName() {
        TreeSet<String> names = new TreeSet<>();
        for (Method m : LabelKernel.class.getMethods()) {
            names.add(m.getName());
        }
        List<Method> own = new ArrayList<>(Arrays.asList(LabelKernel.class.getDeclaredMethods()));
        for (Class<?> inside : LabelKernel.class.getDeclaredClasses()) {
            own.addAll(Arrays.asList(inside.getDeclaredMethods()));
        }
        for (Method m : own) {
            c.due(true, Modifier.isPublic(m.getModifiers()) || !names.contains(m.getName()));
        }
    }

    private static void words() throws IOException {
        String source = Files.readString(Path.of("src/main/java/LabelKernel.java"));
        int imports = 0;
        for (String line : source.split("\n")) {
            if (line.startsWith("import ")) {
                imports++;
                c.due("import java.util.NoSuchElementException;", line);
            }
            c.due(true, !line.startsWith("package "));
        }
        int found = imports;
        c.due(1, () -> found);
        String[] never = {"->", "::", " try ", "catch", "finally", "assert", "synchronized", "static {", "Exact("};
        for (String word : never) {
            c.due(false, source.contains(word));
        }
        c.due(true, source.chars().allMatch(character -> character < 128));
    }
}
