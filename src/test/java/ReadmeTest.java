import java.io.ByteArrayOutputStream;
import java.io.IOException;
import java.io.PrintStream;
import java.lang.reflect.InvocationTargetException;
import java.lang.reflect.Method;
import java.lang.reflect.Modifier;
import java.net.URL;
import java.net.URLClassLoader;
import java.nio.charset.StandardCharsets;
import java.nio.file.Files;
import java.nio.file.Path;
import java.util.Comparator;
import java.util.HashSet;
import java.util.List;
import java.util.Set;
import java.util.regex.Matcher;
import java.util.regex.Pattern;
import java.util.stream.Stream;
import javax.tools.ToolProvider;

/** README.md: its program prints what it says, its examples are answered as it says, and it tells of every call and test. */
public final class ReadmeTest {
    private static final Check check = new Check("ReadmeTest");
    private static final Pattern EXAMPLE = Pattern.compile("`(\\w+)\\(([^`]*)\\)` (-?\\d+|true|false)\\b");

    private ReadmeTest() {
    }

    public static void main(String[] args) throws IOException, ReflectiveOperationException {
        String readme = Files.readString(Path.of("README.md"));
        Path folder = Files.createTempDirectory("readme");
        try {
            programPrintsAsSaid(readme, folder);
        } finally {
            remove(folder);
        }
        Set<String> asked = examplesAreAnsweredAsSaid(readme);
        everyCallIsThere(readme, asked);
        everyTestIsThere(readme);
        check.finish();
    }

    private static String block(String readme, String sort) {
        Matcher matcher = Pattern.compile("(?s)```" + sort + "\\n(.*?)```").matcher(readme);
        if (!matcher.find()) {
            throw new IllegalStateException("README.md has no block of " + sort);
        }
        return matcher.group(1);
    }

    private static void programPrintsAsSaid(String readme, Path folder) throws IOException, ReflectiveOperationException {
        Path source = folder.resolve("Example.java");
        Files.writeString(source, block(readme, "java"));
        int compiled = ToolProvider.getSystemJavaCompiler().run(null, null, null, "-cp",
            System.getProperty("java.class.path"), "-d", folder.toString(), source.toString());
        check.same("README's program compiles", compiled, 0);
        if (compiled != 0) {
            return;
        }
        try (URLClassLoader loader = new URLClassLoader(new URL[] {folder.toUri().toURL()})) {
            Method main = loader.loadClass("Example").getMethod("main", String[].class);
            String printed = printedBy(main);
            boolean asSaid = printed.equals(block(readme, "text"));
            check.same("README's program prints as it says, but for:\n" + printed, asSaid, true);
        }
    }

    private static String printedBy(Method main) throws ReflectiveOperationException {
        PrintStream usual = System.out;
        ByteArrayOutputStream bytes = new ByteArrayOutputStream();
        System.setOut(new PrintStream(bytes, true, StandardCharsets.UTF_8));
        try {
            main.invoke(null, (Object) new String[0]);
        } finally {
            System.setOut(usual);
        }
        return bytes.toString(StandardCharsets.UTF_8).replace("\r\n", "\n");
    }

    private static void remove(Path folder) throws IOException {
        try (Stream<Path> files = Files.walk(folder)) {
            for (Path file : files.sorted(Comparator.reverseOrder()).toList()) {
                Files.delete(file);
            }
        }
    }

    /** The names of the calls that were asked. */
    private static Set<String> examplesAreAnsweredAsSaid(String readme) throws IllegalAccessException, InvocationTargetException {
        // Tales has the same texts as README's program, but for blanks.
        ElsewhereStamps x = Tape.withRail(Tales.RAIL);
        Tape.tell(x, Tales.MONTH, Tape.MONTH, ElsewhereStamps.NONE);
        Tape.tell(x, Tales.LOG, Tape.LOG, ElsewhereStamps.NONE);
        String told = block(readme, "java").replaceAll("//[^\\n]*", "").replaceAll("\"\\s*\\+\\s*\"", "");
        for (String tale : List.of(Tales.RAIL, Tales.MONTH, Tales.LOG)) {
            check.same("README tells " + tale, told.replace("; ", ";").contains('"' + tale + '"'), true);
        }
        Set<String> asked = new HashSet<>();
        Matcher example = EXAMPLE.matcher(readme);
        while (example.find()) {
            Method method = methodOf(example.group(1));
            Object[] values = valuesOf(example.group(2));
            check.same(example.group() + " is a call", method != null && method.getParameterCount() == values.length, true);
            if (method != null && method.getParameterCount() == values.length) {
                String answer = String.valueOf(method.invoke(x, values));
                check.same("README: " + example.group() + ", but it is " + answer, answer.equals(example.group(3)), true);
                asked.add(example.group(1));
            }
        }
        return asked;
    }

    private static Method methodOf(String name) {
        for (Method method : ElsewhereStamps.class.getDeclaredMethods()) {
            if (Modifier.isPublic(method.getModifiers()) && method.getName().equals(name)) {
                return method;
            }
        }
        return null;
    }

    private static Object[] valuesOf(String text) {
        String[] words = text.split(", ");
        Object[] values = new Object[words.length];
        for (int i = 0; i < words.length; i++) {
            switch (words[i]) {
                case "true": values[i] = true; break;
                case "false": values[i] = false; break;
                case "NONE": values[i] = ElsewhereStamps.NONE; break;
                default: values[i] = Integer.decode(words[i]); break;
            }
        }
        return values;
    }

    private static void everyCallIsThere(String readme, Set<String> asked) {
        for (Method method : ElsewhereStamps.class.getDeclaredMethods()) {
            if (Modifier.isPublic(method.getModifiers())) {
                String name = method.getName();
                check.same("README has a row for " + name, readme.contains("\n| `" + name + "("), true);
                check.same("README has an example of " + name, asked.contains(name), true);
            }
        }
    }

    private static void everyTestIsThere(String readme) throws IOException {
        try (Stream<Path> files = Files.list(Path.of("src/test/java"))) {
            for (Path file : files.sorted().toList()) {
                String name = file.getFileName().toString().replace(".java", "");
                if (name.endsWith("Test")) {
                    check.same("README has a row for " + name, readme.contains("\n| `" + name + "` |"), true);
                }
            }
        }
    }
}
