import java.io.IOException;
import java.lang.reflect.Constructor;
import java.lang.reflect.Executable;
import java.lang.reflect.Field;
import java.lang.reflect.Method;
import java.lang.reflect.Modifier;
import java.nio.file.Files;
import java.nio.file.Path;
import java.util.List;
import java.util.Set;
import java.util.TreeSet;
import java.util.regex.Matcher;
import java.util.regex.Pattern;
import java.util.stream.Collectors;
import java.util.stream.Stream;

/** The public face as DOC.md writes it, and the rules of LANGUAGE.md that can be seen from outside or in the text. */
public final class FaceTest {
    private static final Path DOCUMENT = Path.of("../shared/DOC.md");
    private static final Path SOURCE = Path.of("src/main/java/DebtClearing.java");
    private static final Pattern METHOD =
            Pattern.compile("    public (\\w+ )?(\\w+)\\(([^)]*)\\)(?: throws ([^;]*))?;");
    private static final String FORBIDDEN = "->|::|\\bfinally\\b|\\bsynchronized\\b|\\bassert\\b|\\btry\\b|\\bcatch\\b"
            + "|\\bstatic \\{|Exact\\b|\\btransient\\b|\\bvolatile\\b|\\bObject\\b|\\bthrow e\\b|\\bStrictMath\\b";

    public static void main(String[] args) throws IOException {
        face();
        members();
        source();
        Check.finish();
    }

    private static void face() throws IOException {
        Set<String> want = new TreeSet<>();
        Matcher matcher = METHOD.matcher(Files.readString(DOCUMENT));
        while (matcher.find()) {
            String types = Stream.of(matcher.group(3).split(", *")).map(text -> text.split(" ")[0])
                    .collect(Collectors.joining(","));
            want.add((matcher.group(1) == null ? "" : matcher.group(1)) + matcher.group(2) + "(" + types + ") "
                    + (matcher.group(4) == null ? "" : matcher.group(4)));
        }
        Set<String> got = new TreeSet<>();
        for (Constructor<?> constructor : DebtClearing.class.getConstructors()) {
            got.add(described("", "DebtClearing", constructor));
        }
        for (Method method : DebtClearing.class.getDeclaredMethods()) {
            if (!Modifier.isPrivate(method.getModifiers())) {
                got.add(described(method.getReturnType() + " ", method.getName(), method));
            }
        }
        Check.same("methods in the document", want.size(), 51);
        Check.same("face", got, want);
        Check.same("class", Modifier.toString(DebtClearing.class.getModifiers()), "public final");
    }

    private static String described(String type, String name, Executable executable) {
        return type + name + "("
                + Stream.of(executable.getParameterTypes()).map(Class::getName).collect(Collectors.joining(",")) + ") "
                + Stream.of(executable.getExceptionTypes()).map(Class::getSimpleName)
                        .collect(Collectors.joining(", "));
    }

    private static void members() {
        Set<String> publicNames = Stream.of(DebtClearing.class.getMethods()).map(Method::getName)
                .collect(Collectors.toSet());
        for (Field field : DebtClearing.class.getDeclaredFields()) {
            Check.same("private " + field.getName(), Modifier.isPrivate(field.getModifiers()), true);
        }
        for (Method method : DebtClearing.class.getDeclaredMethods()) {
            boolean isPrivate = Modifier.isPrivate(method.getModifiers());
            Check.same("name of " + method, isPrivate && publicNames.contains(method.getName()), false);
        }
        Class<?>[] inside = DebtClearing.class.getDeclaredClasses();
        Check.same("some twelve classes", inside.length <= 11, true);
        for (Class<?> type : inside) {
            Check.same("static " + type, Modifier.isStatic(type.getModifiers()), true);
            Check.same("no public " + type, Modifier.isPublic(type.getModifiers()), false);
        }
    }

    private static void source() throws IOException {
        String text = Files.readString(SOURCE);
        String code = text.replaceAll("(?s)/\\*.*?\\*/", "").replaceAll("//.*", "").replaceAll("\"[^\"]*\"", "\"\"");
        Matcher forbidden = Pattern.compile(FORBIDDEN).matcher(code);
        while (forbidden.find()) {
            Check.same("forbidden", forbidden.group(), "");
        }
        Check.same("ASCII", text.chars().allMatch(character -> character < 128), true);
        List<String> imports = code.lines().filter(line -> line.startsWith("import ")).toList();
        Check.same("imports", imports,
                List.of("import java.util.Arrays;", "import java.util.NoSuchElementException;"));
        Check.same("qualified names", code.replaceAll("import .*", "").contains("java."), false);
    }
}
