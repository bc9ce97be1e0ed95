import java.io.IOException;
import java.lang.reflect.Constructor;
import java.lang.reflect.Field;
import java.lang.reflect.Method;
import java.lang.reflect.Modifier;
import java.nio.file.Files;
import java.nio.file.Path;
import java.util.Arrays;
import java.util.Set;
import java.util.TreeSet;
import java.util.regex.Pattern;

/** The document's public face, and the rules of LANGUAGE.md that can be seen by a plain look at the class. */
public final class FaceTest {
    private static final String[] FACE = {
        "boolean put(int, int, int) IllegalArgumentException",
        "int pedal(int, int, int, int) IllegalArgumentException IllegalStateException",
        "boolean turn(int, int, int, int) IllegalArgumentException",
        "boolean tap(int, int) IllegalArgumentException",
        "boolean swap(int, int, int) IllegalArgumentException",
        "int play(int, int) IllegalArgumentException",
        "long code(int, int) IllegalArgumentException IllegalStateException",
        "long trace(int, int) IllegalArgumentException IllegalStateException",
        "boolean light(int, int)",
        "int against(int) IllegalArgumentException",
        "int save(int, int) IllegalArgumentException",
        "int recall(int, int) IllegalArgumentException",
        "long patch(int, int) IllegalArgumentException",
        "int about(int, int)",
    };

    private static final String[] NOT_IN_THE_SOURCE = {
        "\\bimport\\b", "\\bpackage\\b", "\\btry\\b", "\\bcatch\\b", "\\bfinally\\b", "\\bassert\\b", "\\bsynchronized\\b",
        "\\bFloat\\.", "\\bDouble\\.", "\\bStrictMath\\b", "->", "::", "\\bfloat\\b", "\\bdouble\\b", "Exact\\(",
        "\\bSystem\\b", "\\bThread\\b", "\\bstatic \\{",
    };

    private static final Due due = new Due();

    private static void members() {
        Set<String> publicNames = new TreeSet<>();
        Set<String> face = new TreeSet<>();
        for (Method m : PedalBoard.class.getDeclaredMethods()) {
            if (!Modifier.isPrivate(m.getModifiers())) {
                face.add(told(m));
                publicNames.add(m.getName());
                due.is(true, m.getName() + " is public and not static",
                        () -> Modifier.isPublic(m.getModifiers()) && !Modifier.isStatic(m.getModifiers()));
            }
        }
        due.is(new TreeSet<>(Arrays.asList(FACE)), "the methods that are not private", () -> face);
        for (Method m : PedalBoard.class.getDeclaredMethods()) {
            if (Modifier.isPrivate(m.getModifiers())) {
                due.is(false, "a public name for the private " + m.getName(), () -> publicNames.contains(m.getName()));
            }
        }
        for (Field f : PedalBoard.class.getDeclaredFields()) {
            due.is(!f.getName().equals("NONE"), f.getName() + " is private", () -> Modifier.isPrivate(f.getModifiers()));
            due.is(true, f.getName() + " is final", () -> Modifier.isFinal(f.getModifiers()));
        }
    }

    private static String told(Method m) {
        StringBuilder text = new StringBuilder(m.getReturnType().getName() + " " + m.getName() + "(");
        for (int i = 0; i < m.getParameterCount(); i++) {
            text.append(i == 0 ? "" : ", ").append(m.getParameterTypes()[i].getName());
        }
        text.append(")");
        for (Class<?> thrown : m.getExceptionTypes()) {
            text.append(" ").append(thrown.getSimpleName());
        }
        return text.toString();
    }

    private static void theClass() {
        int modifiers = PedalBoard.class.getModifiers();
        due.is(true, "the class is public and final", () -> Modifier.isPublic(modifiers) && Modifier.isFinal(modifiers));
        Constructor<?>[] made = PedalBoard.class.getDeclaredConstructors();
        due.is(1, "constructors", () -> made.length);
        due.is(true, "the constructor is public", () -> Modifier.isPublic(made[0].getModifiers()));
        due.is(0, "the constructor's parameters", () -> made[0].getParameterCount());
        for (Class<?> inside : PedalBoard.class.getDeclaredClasses()) {
            due.is(true, inside + " is private or package-visible, and static", () -> Modifier.isStatic(inside.getModifiers())
                    && !Modifier.isPublic(inside.getModifiers()) && !Modifier.isProtected(inside.getModifiers()));
        }
    }

    private static void theSource() throws IOException {
        String source = Files.readString(Path.of("src/main/java/PedalBoard.java"));
        String code = source.replaceAll("(?s)/\\*.*?\\*/", "").replaceAll("//[^\n]*", "").replaceAll("\"[^\"\n]*\"", "");
        for (String word : NOT_IN_THE_SOURCE) {
            due.is(false, "the source has " + word, () -> Pattern.compile(word).matcher(code).find());
        }
    }

    public static void main(String[] args) throws IOException {
        theClass();
        members();
        theSource();
        due.end();
    }
}
