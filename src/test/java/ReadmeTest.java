import java.io.IOException;
import java.net.URL;
import java.net.URLClassLoader;
import java.nio.file.Files;
import java.nio.file.Path;
import java.util.ArrayList;
import java.util.List;
import java.util.regex.Matcher;
import java.util.regex.Pattern;
import java.util.stream.Stream;
import javax.tools.ToolProvider;

/** What README.md says: its example gives the answers that it tells, and what it names is there. */
public final class ReadmeTest {
    /** A line of the example: a call, and behind // its answer, with words behind a colon. */
    private static final Pattern TOLD = Pattern.compile("(\\S.*);\\s+// ([^\\s:]+): .+");

    private static final Due due = new Due();

    private static List<Matcher> told(List<String> example) {
        List<Matcher> told = new ArrayList<>();
        for (String line : example) {
            Matcher matcher = TOLD.matcher(line);
            if (matcher.matches()) {
                told.add(matcher);
            }
        }
        return told;
    }

    /** The example as a class whose method gives its answers one behind the other. */
    private static String program(List<String> example) {
        StringBuilder text = new StringBuilder("public final class Example {\n");
        text.append("public static java.util.List<Object> answers() {\n");
        text.append("java.util.List<Object> answers = new java.util.ArrayList<>();\n");
        for (String line : example) {
            Matcher matcher = TOLD.matcher(line);
            if (matcher.matches()) {
                text.append("try { answers.add(").append(matcher.group(1)).append("); }");
                text.append("catch (RuntimeException e) { answers.add(e.getClass().getSimpleName()); }\n");
            } else {
                text.append(line).append('\n');
            }
        }
        return text.append("return answers;\n}\n}\n").toString();
    }

    private static List<?> answers(List<String> example, Path room) throws IOException, ReflectiveOperationException {
        Path source = Files.writeString(room.resolve("Example.java"), program(example));
        int failed = ToolProvider.getSystemJavaCompiler().run(null, null, null,
                "-cp", System.getProperty("java.class.path"), "-d", room.toString(), source.toString());
        if (failed != 0) {
            return List.of();
        }
        try (URLClassLoader loader = new URLClassLoader(new URL[] {room.toUri().toURL()})) {
            return (List<?>) loader.loadClass("Example").getMethod("answers").invoke(null);
        }
    }

    private static void theExample(String readme) throws IOException, ReflectiveOperationException {
        List<String> example = Face.blocks(readme, "java");
        List<Matcher> told = told(example);
        Path room = Files.createTempDirectory("readme");
        List<?> answers = answers(example, room);
        try (Stream<Path> files = Files.list(room)) {
            for (Path file : files.toList()) {
                Files.delete(file);
            }
        }
        Files.delete(room);
        due.is(told.size(), "answers of the example in README.md", answers::size);
        for (int i = 0; i < Math.min(told.size(), answers.size()); i++) {
            String answer = String.valueOf(answers.get(i));
            due.is(told.get(i).group(2), "README.md: " + told.get(i).group(1), () -> answer);
        }
    }

    private static void eachCall(String readme) throws IOException {
        String example = String.join("\n", Face.blocks(readme, "java"));
        for (String line : Face.lines()) {
            Matcher call = Pattern.compile("(\\w+)(\\(int .*?\\))").matcher(line);
            if (call.find()) {
                String name = call.group(1);
                String row = "| `" + name + call.group(2).replace("int ", "") + "` |";
                due.is(true, "README.md has a row " + row, () -> readme.contains(row));
                due.is(true, "README.md's example calls " + name, () -> example.contains("board." + name + "("));
            }
        }
    }

    private static void eachKind(String readme) throws IOException {
        int kinds = Face.kinds().size();
        due.is(Signals.KINDS.length, "KINDS that the document tells", () -> kinds);
        for (String kind : Face.kinds()) {
            due.is(true, "README.md has a row of " + kind, () -> readme.contains("\n| " + kind + " | "));
        }
    }

    private static void theCommand(String readme) {
        String tests = readme.substring(readme.indexOf("\n## Tests\n"));
        due.is(true, "README.md names .ci/run for the tests", () -> tests.contains("\n    .ci/run\n"));
        due.is(true, ".ci/run can be run", () -> Files.isExecutable(Path.of(".ci/run")));
    }

    private static void whatItNames(String readme) {
        Matcher paths = Pattern.compile("`((?:\\.\\./|src/)[\\w./]+)`").matcher(readme);
        while (paths.find()) {
            String path = paths.group(1);
            due.is(true, "there is " + path + ", which README.md names", () -> Files.exists(Path.of(path)));
        }
        Matcher tests = Pattern.compile("`(\\w+Test|Refusals|Boards|Mirror)\\b").matcher(readme);
        while (tests.find()) {
            String name = tests.group(1);
            due.is(true, "there is the test " + name + ", which README.md names",
                    () -> Files.exists(Path.of("src/test/java/" + name + ".java")));
        }
    }

    public static void main(String[] args) throws IOException, ReflectiveOperationException {
        String readme = Files.readString(Path.of("README.md"));
        theExample(readme);
        eachCall(readme);
        eachKind(readme);
        theCommand(readme);
        whatItNames(readme);
        due.end();
    }
}
