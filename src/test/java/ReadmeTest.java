import java.io.ByteArrayOutputStream;
import java.io.IOException;
import java.io.PrintStream;
import java.lang.reflect.InvocationTargetException;
import java.lang.reflect.Method;
import java.lang.reflect.Modifier;
import java.net.URL;
import java.net.URLClassLoader;
import java.nio.charset.StandardCharsets;
import java.nio.file.Files;
import java.nio.file.Path;
import java.util.List;
import java.util.Set;
import java.util.TreeSet;
import java.util.regex.Matcher;
import java.util.regex.Pattern;
import java.util.stream.Collectors;
import java.util.stream.Stream;
import javax.tools.JavaCompiler;
import javax.tools.ToolProvider;

/** What README.md says: its example, each call of its table, the tests and files that it names. */
public final class ReadmeTest {
    private static final Cases CHECK = new Cases(ReadmeTest.class);
    private static final String PAGE = read(Path.of("README.md"));

    public static void main(String[] args) throws ReflectiveOperationException {
        CHECK.run();
    }

    private static String read(Path path) {
        try {
            return Files.readString(path);
        } catch (IOException e) {
            throw new IllegalStateException(path.toString(), e);
        }
    }

    /** What stands in the first fence of this sort. */
    private static String fenced(String sort) {
        Matcher m = Pattern.compile("(?s)```" + sort + "\n(.*?)```").matcher(PAGE);
        CHECK.due("README.md has a fence of " + sort, m.find(), true);
        return m.group(1);
    }

    static void theExamplePrintsWhatStandsBelowIt() throws IOException, ReflectiveOperationException {
        Path folder = Files.createTempDirectory("readme");
        Path source = folder.resolve("Example.java");
        Files.writeString(source, fenced("java"));
        JavaCompiler compiler = ToolProvider.getSystemJavaCompiler();
        int ended = compiler.run(null, null, null, "-Xlint:all", "-Werror", "-cp", System.getProperty("java.class.path"),
                "-d", folder.toString(), source.toString());
        CHECK.due("the example compiles", ended, 0);
        String printed = printedBy(folder, "Example");
        CHECK.due("the example prints " + printed, printed.equals(fenced("text")), true);
        try (Stream<Path> files = Files.list(folder)) {
            for (Path file : files.collect(Collectors.toList())) {
                Files.delete(file);
            }
        }
        Files.delete(folder);
    }

    private static String printedBy(Path folder, String name) throws IOException, ReflectiveOperationException {
        PrintStream out = System.out;
        ByteArrayOutputStream printed = new ByteArrayOutputStream();
        try (URLClassLoader loader = new URLClassLoader(new URL[] {folder.toUri().toURL()})) {
            System.setOut(new PrintStream(printed, true, StandardCharsets.ISO_8859_1));
            loader.loadClass(name).getMethod("main", String[].class).invoke(null, (Object) new String[0]);
        } finally {
            System.setOut(out);
        }
        return printed.toString(StandardCharsets.ISO_8859_1).replace("\r\n", "\n");
    }

    /** The text of the example is the one that is told here. */
    private static LongerHalf kitchenOfThePage() {
        StringBuilder text = new StringBuilder();
        Matcher m = Pattern.compile("(?m)^ +(?:String text = |\\+ )\"([^\"]*)\";?$").matcher(fenced("java"));
        while (m.find()) {
            text.append(m.group(1));
        }
        return Check.told(text.toString());
    }

    static void everyCallOfTheTableAnswersSo() throws ReflectiveOperationException {
        LongerHalf x = kitchenOfThePage();
        Set<String> asked = new TreeSet<>();
        Matcher row = Pattern.compile("(?m)^\\| `(\\w+)\\((.*?)\\)` \\| `(.*?)` \\|").matcher(PAGE);
        while (row.find()) {
            Method called = methodOf(row.group(1));
            asked.add(row.group(1));
            String got = answer(x, called, row.group(2).isEmpty() ? new String[0] : row.group(2).split(", "));
            CHECK.due(row.group() + " answered " + got, got.equals(row.group(3)), true);
        }
        for (Method m : LongerHalf.class.getDeclaredMethods()) {
            boolean isFace = Modifier.isPublic(m.getModifiers());
            CHECK.due(m.getName() + " is in the table", asked.contains(m.getName()), isFace);
        }
    }

    private static Method methodOf(String name) {
        for (Method m : LongerHalf.class.getDeclaredMethods()) {
            if (m.getName().equals(name) && Modifier.isPublic(m.getModifiers())) {
                return m;
            }
        }
        throw new IllegalStateException("README.md tells a call that is not there: " + name);
    }

    private static String answer(LongerHalf x, Method called, String[] told) throws ReflectiveOperationException {
        Class<?>[] types = called.getParameterTypes();
        Object[] given = new Object[types.length];
        CHECK.due("arguments of " + called.getName(), told.length, given.length);
        for (int i = 0; i < given.length; i++) {
            given[i] = types[i] == boolean.class ? (Object) Boolean.valueOf(told[i]) : (Object) Integer.decode(told[i]);
        }
        try {
            return String.valueOf(called.invoke(x, given));
        } catch (InvocationTargetException e) {
            return "throws " + e.getCause().getClass().getSimpleName();
        }
    }

    static void everyTestIsNamed() throws IOException {
        List<String> tests;
        try (Stream<Path> files = Files.list(Path.of("src/test/java"))) {
            tests = files.map(f -> f.getFileName().toString().replace(".java", "")).collect(Collectors.toList());
        }
        for (String name : tests) {
            boolean isOfARange = name.matches("Promise\\d\\dTest");
            boolean isHelper = name.equals("Check") || name.equals("Texts");
            CHECK.due(name + " is named", isOfARange || isHelper || PAGE.contains("`" + name + "`"), true);
        }
        Matcher named = Pattern.compile("`(\\w+(?:Test|Model)|Cases)`").matcher(PAGE);
        while (named.find()) {
            CHECK.due(named.group(1) + " is there", tests.contains(named.group(1)), true);
        }
    }

    static void everyFileIsThere() {
        Matcher named = Pattern.compile("`((?:\\.\\./|\\.ci/|src/)[\\w./]*)`").matcher(PAGE);
        int files = 0;
        while (named.find()) {
            CHECK.due(named.group(1) + " is there", Files.exists(Path.of(named.group(1))), true);
            files++;
        }
        CHECK.due("README.md names files", files > 4, true);
    }
}
