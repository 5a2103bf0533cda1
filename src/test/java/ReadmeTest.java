import java.io.ByteArrayOutputStream;
import java.io.IOException;
import java.io.PrintStream;
import java.lang.reflect.Field;
import java.lang.reflect.Method;
import java.lang.reflect.Modifier;
import java.net.URL;
import java.net.URLClassLoader;
import java.nio.file.Files;
import java.nio.file.Path;
import java.util.Set;
import java.util.TreeSet;
import java.util.regex.Matcher;
import java.util.regex.Pattern;
import javax.tools.ToolProvider;

/** README.md: its example does what it says, and its tables are those of the class. */
final class ReadmeTest {
    private static final Pattern CONSTANT_ROW = Pattern.compile("(?m)^\\| `([A-Z_]+)` \\| (-?\\d+) \\|");
    private static final Pattern CALL_ROW = Pattern.compile("(?m)^\\| `(\\w+)\\(([^)]*)\\)` \\|.*\\|([^|]*)\\|$");

    private ReadmeTest() {
    }

    static void run(String path) {
        String readme = textOf(Path.of(path));
        Tests.run("README: the example", () -> example(readme));
        Tests.run("README: the constants", () -> constants(readme));
        Tests.run("README: the calls", () -> calls(readme));
    }

    static String textOf(Path path) {
        try {
            return Files.readString(path);
        } catch (IOException thrown) {
            throw new IllegalStateException(thrown);
        }
    }

    private static String block(String readme, String kind) {
        Matcher matcher = Pattern.compile("(?s)\n```" + kind + "\n(.*?)```\n").matcher(readme);
        Tests.holds("README has a block of " + kind, matcher.find());
        return matcher.group(1);
    }

    private static void example(String readme) {
        String printed;
        try {
            printed = printedBy(block(readme, "java"));
        } catch (IOException | ReflectiveOperationException thrown) {
            throw new IllegalStateException(thrown);
        }
        boolean same = printed.replace("\r\n", "\n").equals(block(readme, "text"));
        Tests.holds("README tells what the example prints:\n" + printed, same);
    }

    private static String printedBy(String program) throws IOException, ReflectiveOperationException {
        Path place = Files.createTempDirectory("readme");
        Path source = place.resolve("Example.java");
        Path compiled = place.resolve("Example.class");
        PrintStream out = System.out;
        ByteArrayOutputStream printed = new ByteArrayOutputStream();
        try {
            Files.writeString(source, program);
            int failed = ToolProvider.getSystemJavaCompiler().run(null, null, null, "-Xlint:all", "-Werror",
                    "-cp", System.getProperty("java.class.path"), "-d", place.toString(), source.toString());
            Tests.due("javac of the example", failed, 0);
            try (URLClassLoader loader = new URLClassLoader(new URL[] {place.toUri().toURL()})) {
                System.setOut(new PrintStream(printed, true));
                loader.loadClass("Example").getMethod("main", String[].class).invoke(null, (Object) new String[0]);
            }
        } finally {
            System.setOut(out);
            Files.deleteIfExists(source);
            Files.deleteIfExists(compiled);
            Files.deleteIfExists(place);
        }
        return printed.toString();
    }

    private static void constants(String readme) {
        Set<String> told = new TreeSet<>();
        Matcher row = CONSTANT_ROW.matcher(readme);
        while (row.find()) {
            told.add(row.group(1) + " = " + row.group(2));
        }
        Set<String> there = new TreeSet<>();
        for (Field field : TwinPatience.class.getFields()) {
            try {
                there.add(field.getName() + " = " + field.getInt(null));
            } catch (IllegalAccessException thrown) {
                throw new IllegalStateException(thrown);
            }
        }
        Tests.holds("README has " + told + ", the class " + there, told.equals(there));
    }

    private static void calls(String readme) {
        Set<String> told = new TreeSet<>();
        Matcher row = CALL_ROW.matcher(readme);
        while (row.find()) {
            int arguments = row.group(2).isEmpty() ? 0 : row.group(2).split(", ").length;
            told.add(row.group(1) + " of " + arguments);
            errors(row.group(1), row.group(3).trim());
        }
        Set<String> there = new TreeSet<>();
        for (Method method : TwinPatience.class.getDeclaredMethods()) {
            if (Modifier.isPublic(method.getModifiers())) {
                there.add(method.getName() + " of " + method.getParameterCount());
            }
        }
        Tests.holds("README has " + told + ", the class " + there, told.equals(there));
    }

    /** The errors as the promises name them. */
    private static void errors(String call, String told) {
        String due = switch (call) {
            case "deal", "play", "side", "count", "ifPlayed", "save" -> "`BAD_VALUE`";
            case "move", "freeze" -> "`NO_SUCH`, `NOT_POSSIBLE`";
            case "draw", "undo" -> "`NOT_POSSIBLE`";
            case "playAll" -> "`BAD_TEXT`";
            case "pile", "where", "ofMove" -> "`NO_SUCH`, `BAD_VALUE`";
            case "card", "buried" -> "`NO_SUCH`";
            case "put" -> "`BAD_VALUE`, `TOO_MANY`";
            case "restore" -> "`BAD_VALUE`, `NOT_POSSIBLE`";
            default -> "";
        };
        Tests.holds("README tells of " + call + " the errors " + due, told.equals(due));
    }
}
