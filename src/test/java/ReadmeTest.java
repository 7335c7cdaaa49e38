import java.io.File;
import java.io.IOException;
import java.lang.reflect.Method;
import java.lang.reflect.Modifier;
import java.net.URL;
import java.net.URLClassLoader;
import java.nio.file.Files;
import java.nio.file.Path;
import java.util.ArrayList;
import java.util.HashMap;
import java.util.List;
import java.util.Map;
import java.util.Set;
import java.util.TreeSet;
import java.util.regex.Matcher;
import java.util.regex.Pattern;
import java.util.stream.Collectors;
import java.util.stream.Stream;
import javax.tools.ToolProvider;

/** What README.md shows must be true: its examples answer what their comments say, its tables are the face. */
public final class ReadmeTest {
    private static final Path README = Path.of("README.md");
    private static final Pattern EXAMPLE = Pattern.compile("(?s)```java\n(.*?)```");
    private static final Pattern ANSWERED = Pattern.compile("(?:\\w+ (\\w+) = )?(.*);\\s+// (.*)");
    private static final Pattern CALL_ROW = Pattern.compile("\\| `(\\w+)\\(([^`]*)\\)` \\|.*\\|([\\w, ]*)\\|");
    private static final Pattern COMMAND_ROW = Pattern.compile("\\| `(\\w[^`]*)` \\| `(\\w+\\([^`]*\\))` \\|");
    private static final String NAME = "ReadmeExamples";

    public static void main(String[] args) throws IOException, ReflectiveOperationException {
        String page = Files.readString(README);
        Check.same("answers of the page", Pattern.compile(";\\s+// ").matcher(page).results().count() > 50, true);
        Check.same("commands of the page", COMMAND_ROW.matcher(page).results().count(), 8L);
        tables(page);
        run(program(page));
        Check.finish();
    }

    /** Called by the program that is made of the examples. */
    static void answer(String line, String want, Check.Call call) {
        Object got = Check.outcome(call);
        String text = got instanceof Class ? "throws " + ((Class<?>) got).getSimpleName() : String.valueOf(got);
        Check.same("README.md: " + line, text, want);
    }

    /** A house in which each command of the page can be carried out. */
    static DebtClearing readyForAll() {
        return Houses.with(3, Houses.debt(0, 1, 45), Houses.debt(1, 0, 5), Houses.debt(1, 2, 6),
                Houses.debt(2, 0, 7));
    }

    private static void tables(String page) {
        Map<String, String> face = new HashMap<>();
        for (Method method : DebtClearing.class.getDeclaredMethods()) {
            if (Modifier.isPublic(method.getModifiers())) {
                face.put(method.getName(), method.getParameterCount() + " parameters, throws "
                        + Stream.of(method.getExceptionTypes()).map(Class::getSimpleName)
                                .collect(Collectors.joining(", ")));
            }
        }
        Set<String> told = new TreeSet<>();
        Matcher row = CALL_ROW.matcher(page);
        while (row.find()) {
            int parameters = row.group(2).isEmpty() ? 0 : row.group(2).split(",").length;
            String thrown = Stream.of(row.group(3).trim().split(", ")).filter(name -> !name.isEmpty())
                    .map(name -> name + "Exception").collect(Collectors.joining(", "));
            Check.same("README.md: " + row.group(1), parameters + " parameters, throws " + thrown,
                    face.get(row.group(1)));
            Check.same("README.md tells only once " + row.group(1), told.add(row.group(1)), true);
        }
        Check.same("calls of the page", told, new TreeSet<>(face.keySet()));
    }

    private static String program(String page) {
        List<String> lines = new ArrayList<>();
        lines.add("public final class " + NAME + " {");
        lines.add("public static void run() {");
        Matcher example = EXAMPLE.matcher(page);
        while (example.find()) {
            example.group(1).lines().forEach(line -> addExample(lines, line));
        }
        Matcher command = COMMAND_ROW.matcher(page);
        while (command.find()) {
            addCommand(lines, command.group(1), command.group(2));
        }
        lines.add("Check.finish();");
        lines.add("}}");
        return String.join("\n", lines);
    }

    private static void addExample(List<String> lines, String line) {
        Matcher answered = ANSWERED.matcher(line);
        if (!answered.matches()) {
            lines.add(line);
            return;
        }
        String name = answered.group(1);
        if (name != null) {
            lines.add(line);
        }
        lines.add("ReadmeTest.answer(" + quoted(line) + ", " + quoted(answered.group(3)) + ", () -> "
                + (name != null ? name : answered.group(2)) + ");");
    }

    private static void addCommand(List<String> lines, String text, String call) {
        lines.add("{ DebtClearing byText = ReadmeTest.readyForAll();");
        lines.add("DebtClearing byCall = ReadmeTest.readyForAll();");
        lines.add("String before = Houses.state(byCall);");
        lines.add("Check.same(" + quoted(text) + ", Houses.run(byText, " + quoted(text) + "), 1);");
        lines.add("byCall." + call + ";");
        lines.add("Check.same(" + quoted(text + " is " + call) + ", Houses.state(byText), Houses.state(byCall));");
        lines.add("Check.same(" + quoted(text) + " + \" changes\", before.equals(Houses.state(byText)), false); }");
    }

    private static String quoted(String text) {
        return "\"" + text.replace("\\", "\\\\").replace("\"", "\\\"") + "\"";
    }

    private static void run(String program) throws IOException, ReflectiveOperationException {
        Path folder = Files.createTempDirectory("readme");
        Path source = folder.resolve(NAME + ".java");
        Path compiled = folder.resolve(NAME + ".class");
        try {
            Files.writeString(source, program);
            int result = ToolProvider.getSystemJavaCompiler().run(null, null, null, "-proc:none", "-cp",
                    System.getProperty("java.class.path"), "-d", folder.toString(), source.toString());
            Check.same("the examples compile", result, 0);
            try (URLClassLoader loader = new URLClassLoader(places(folder), ClassLoader.getPlatformClassLoader())) {
                loader.loadClass(NAME).getMethod("run").invoke(null);
            }
        } finally {
            Files.deleteIfExists(compiled);
            Files.deleteIfExists(source);
            Files.deleteIfExists(folder);
        }
    }
    /** The examples and the tests' helpers must come from one loader, or they could not see each other. */
    private static URL[] places(Path folder) throws IOException {
        List<URL> places = new ArrayList<>();
        places.add(folder.toUri().toURL());
        for (String place : System.getProperty("java.class.path").split(File.pathSeparator)) {
            places.add(Path.of(place).toUri().toURL());
        }
        return places.toArray(new URL[0]);
    }
}
