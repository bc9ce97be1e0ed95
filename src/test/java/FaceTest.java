import java.io.IOException;
import java.lang.reflect.Constructor;
import java.lang.reflect.Field;
import java.lang.reflect.Method;
import java.lang.reflect.Modifier;
import java.nio.file.Files;
import java.nio.file.Path;
import java.util.Arrays;
import java.util.Set;
import java.util.TreeSet;
import java.util.regex.MatchResult;
import java.util.regex.Matcher;
import java.util.regex.Pattern;

/** The document's public face, and the rules of LANGUAGE.md that can be seen by a plain look at the class. */
public final class FaceTest {
    private static final String[] FACE = {
        "boolean put(int, int, int) IllegalArgumentException",
        "int pedal(int, int, int, int) IllegalArgumentException IllegalStateException",
        "boolean turn(int, int, int, int) IllegalArgumentException",
        "boolean tap(int, int) IllegalArgumentException",
        "boolean swap(int, int, int) IllegalArgumentException",
        "int play(int, int) IllegalArgumentException",
        "long code(int, int) IllegalArgumentException IllegalStateException",
        "long trace(int, int) IllegalArgumentException IllegalStateException",
        "boolean light(int, int)",
        "int against(int) IllegalArgumentException",
        "int save(int, int) IllegalArgumentException",
        "int recall(int, int) IllegalArgumentException",
        "long patch(int, int) IllegalArgumentException",
        "int about(int, int)",
    };

    private static final String[] NOT_IN_THE_SOURCE = {
        "\\bimport\\b", "\\bpackage\\b", "\\btry\\b", "\\bcatch\\b", "\\bfinally\\b", "\\bassert\\b", "\\bsynchronized\\b",
        "\\bFloat\\.", "\\bDouble\\.", "\\bStrictMath\\b", "->", "::", "\\bfloat\\b", "\\bdouble\\b", "Exact\\(",
        "\\bSystem\\b", "\\bThread\\b", "\\bstatic \\{",
    };

    /** All that the source may take from Java's library, and the one call of values(). */
    private static final Set<String> FROM_THE_LIBRARY = Set.of("Math.max", "Math.min", "Long.MIN_VALUE", "Sort.values");

    private static final Set<Class<?>> ENUM_FIELDS = Set.of(int.class, long.class, boolean.class, String.class);

    private static final Pattern METHOD = Pattern.compile("( {4}| {8})((?!if|for|switch|while|return|throw)\\w[^=;]*\\([^;]*)");

    private static final int MOST_PARAMETERS = 7;
    private static final int MOST_FIELDS = 20;
    private static final int MOST_CLASSES = 12;
    private static final int MOST_LINES = 60;

    private static final Due due = new Due();

    private static void members() {
        Set<String> publicNames = new TreeSet<>();
        Set<String> face = new TreeSet<>();
        for (Method m : PedalBoard.class.getDeclaredMethods()) {
            if (!Modifier.isPrivate(m.getModifiers())) {
                face.add(told(m));
                publicNames.add(m.getName());
                due.is(true, m.getName() + " is public and not static",
                        () -> Modifier.isPublic(m.getModifiers()) && !Modifier.isStatic(m.getModifiers()));
            }
        }
        due.is(new TreeSet<>(Arrays.asList(FACE)), "the methods that are not private", () -> face);
        for (Method m : PedalBoard.class.getDeclaredMethods()) {
            if (Modifier.isPrivate(m.getModifiers())) {
                due.is(false, "a public name for the private " + m.getName(), () -> publicNames.contains(m.getName()));
            }
        }
        for (Field f : PedalBoard.class.getDeclaredFields()) {
            due.is(!f.getName().equals("NONE"), f.getName() + " is private", () -> Modifier.isPrivate(f.getModifiers()));
            due.is(true, f.getName() + " is final", () -> Modifier.isFinal(f.getModifiers()));
        }
    }

    private static String told(Method m) {
        StringBuilder text = new StringBuilder(m.getReturnType().getName() + " " + m.getName() + "(");
        for (int i = 0; i < m.getParameterCount(); i++) {
            text.append(i == 0 ? "" : ", ").append(m.getParameterTypes()[i].getName());
        }
        text.append(")");
        for (Class<?> thrown : m.getExceptionTypes()) {
            text.append(" ").append(thrown.getSimpleName());
        }
        return text.toString();
    }

    private static void theClass() {
        int modifiers = PedalBoard.class.getModifiers();
        due.is(true, "the class is public and final", () -> Modifier.isPublic(modifiers) && Modifier.isFinal(modifiers));
        Constructor<?>[] made = PedalBoard.class.getDeclaredConstructors();
        due.is(1, "constructors", () -> made.length);
        due.is(true, "the constructor is public", () -> Modifier.isPublic(made[0].getModifiers()));
        due.is(0, "the constructor's parameters", () -> made[0].getParameterCount());
        for (Class<?> inside : PedalBoard.class.getDeclaredClasses()) {
            due.is(true, inside + " is private or package-visible, and static", () -> Modifier.isStatic(inside.getModifiers())
                    && !Modifier.isPublic(inside.getModifiers()) && !Modifier.isProtected(inside.getModifiers()));
        }
    }

    /** The document's own lines stand in the source, and nothing else there is public. */
    private static void theDocumentsLines(String code) throws IOException {
        String flat = code.replaceAll("\\s+", " ");
        for (String line : Face.lines()) {
            String want = line.contains(" = ") ? line + ";" : line + " {";
            due.is(true, "the source has " + want, () -> flat.contains(want));
        }
        int lines = Face.lines().size();
        due.is(17, "lines of the document's face", () -> lines);
        due.is(lines, "the word public in the source", () -> (int) Pattern.compile("\\bpublic\\b").matcher(code).results().count());
        due.is(0, "the word protected in the source", () -> (int) Pattern.compile("\\bprotected\\b").matcher(code).results().count());
    }

    private static void theWords(String code) {
        for (String word : NOT_IN_THE_SOURCE) {
            due.is(false, "the source has " + word, () -> Pattern.compile(word).matcher(code).find());
        }
        Pattern.compile("\\b[A-Z]\\w*[a-z]\\w*\\.\\w+").matcher(code).results().map(MatchResult::group).forEach(
                used -> due.is(true, used + " may be used", () -> FROM_THE_LIBRARY.contains(used)));
        Pattern.compile("throw (.*?);").matcher(code).results().map(MatchResult::group).forEach(
                thrown -> due.is(true, thrown + " is of a written text",
                        () -> thrown.matches("throw new Illegal(Argument|State)Exception\\(\\);")));
    }

    /** A method's head stands one or two steps in, and the bracket that ends it stands just below. */
    private static void lengths(String code) {
        String[] lines = code.split("\n");
        for (int i = 0; i < lines.length; i++) {
            Matcher head = METHOD.matcher(lines[i]);
            if (head.matches()) {
                String end = head.group(1) + "}";
                int length = 1;
                while (i + length < lines.length && !lines[i + length].equals(end)) {
                    length++;
                }
                int seen = length;
                due.is(true, "short enough is " + head.group(2), () -> seen < MOST_LINES);
            }
        }
    }

    private static void sizes(Class<?> c) {
        for (Method m : c.getDeclaredMethods()) {
            due.is(true, m + " takes few parameters", () -> m.getParameterCount() <= MOST_PARAMETERS);
        }
        long fields = Arrays.stream(c.getDeclaredFields()).filter(f -> !Modifier.isStatic(f.getModifiers())).count();
        due.is(true, c + " has few fields", () -> fields <= MOST_FIELDS);
        for (Field f : c.getDeclaredFields()) {
            if (Modifier.isStatic(f.getModifiers())) {
                due.is(true, f + " is final", () -> Modifier.isFinal(f.getModifiers()));
            } else if (c.isEnum()) {
                due.is(true, f + " may stand in an enum", () -> ENUM_FIELDS.contains(f.getType()));
            }
        }
    }

    private static void theRules() {
        Class<?>[] inside = PedalBoard.class.getDeclaredClasses();
        due.is(true, "few classes", () -> inside.length < MOST_CLASSES);
        sizes(PedalBoard.class);
        for (Class<?> c : inside) {
            sizes(c);
        }
    }

    public static void main(String[] args) throws IOException {
        String source = Files.readString(Path.of("src/main/java/PedalBoard.java"));
        String code = source.replaceAll("(?s)/\\*.*?\\*/", "").replaceAll("//[^\n]*", "").replaceAll("\"[^\"\n]*\"", "");
        theClass();
        members();
        theDocumentsLines(code);
        theWords(code);
        lengths(code);
        theRules();
        due.end();
    }
}
