import java.io.IOException;
import java.lang.reflect.Method;
import java.lang.reflect.Modifier;
import java.nio.charset.StandardCharsets;
import java.nio.file.DirectoryStream;
import java.nio.file.Files;
import java.nio.file.Path;
import java.util.Set;
import java.util.TreeSet;
import java.util.regex.Matcher;
import java.util.regex.Pattern;

/** README.md: its examples answer as it says, and it names every call and every test that there is. */
public final class ReadmeTest {
    private static final Path README = Path.of("README.md");
    private static final Path TESTS = Path.of("src/test/java");
    private static final Path RUN = Path.of(".ci/run");
    private static final Pattern EXAMPLE = Pattern.compile("(?s)```java\n(.*?)```");
    private static final Pattern NEW_OBJECT = Pattern.compile("TraverseClosed x = new TraverseClosed\\(\\);");
    private static final Pattern CALL = Pattern.compile("x\\.(\\w+)\\((.*)\\); +// (-?[0-9]+)");
    private static final Pattern NAME = Pattern.compile("`(\\w+)`");

    private static final Due due = new Due();

    public static void main(String[] args) throws IOException, ReflectiveOperationException {
        due.about("README");
        String text = Files.readString(README, StandardCharsets.UTF_8);
        examples(text);
        Set<String> names = found(NAME, text);
        callsAreNamed(names);
        testsAreNamed(names);
        due.isTrue(".ci/run is told", text.contains("\n    .ci/run\n"));
        due.isTrue(".ci/run can be run", Files.isExecutable(RUN));
        due.end();
    }

    private static void examples(String text) throws ReflectiveOperationException {
        int examples = 0;
        Matcher m = EXAMPLE.matcher(text);
        while (m.find()) {
            examples++;
            due.about("README, example " + examples);
            example(m.group(1).split("\n"));
        }
        due.about("README");
        due.isTrue("examples stand there", examples > 0);
    }

    private static void example(String[] lines) throws ReflectiveOperationException {
        due.isTrue("begins with a new object", NEW_OBJECT.matcher(lines[0]).matches());
        TraverseClosed x = new TraverseClosed();
        for (int i = 1; i < lines.length; i++) {
            Matcher m = CALL.matcher(lines[i]);
            boolean isCall = m.matches();
            due.isTrue(lines[i] + " is a call with its answer", isCall);
            if (isCall) {
                due.is(lines[i], answer(x, m.group(1), m.group(2)), Long.parseLong(m.group(3)));
            }
        }
    }

    private static long answer(TraverseClosed x, String name, String told) throws ReflectiveOperationException {
        String[] texts = told.isEmpty() ? new String[0] : told.split("(?<!'),(?!') *");
        Object[] args = new Object[texts.length];
        for (int i = 0; i < texts.length; i++) {
            args[i] = number(texts[i]);
        }
        return ((Number) named(name).invoke(x, args)).longValue();
    }

    private static int number(String told) {
        return told.charAt(0) == '\'' ? told.charAt(1) : Integer.parseInt(told);
    }

    private static Method named(String name) {
        for (Method method : TraverseClosed.class.getMethods()) {
            if (method.getName().equals(name)) {
                return method;
            }
        }
        throw new IllegalArgumentException(name);
    }

    private static Set<String> found(Pattern pattern, String text) {
        Set<String> all = new TreeSet<>();
        Matcher m = pattern.matcher(text);
        while (m.find()) {
            all.add(m.group(1));
        }
        return all;
    }

    private static void callsAreNamed(Set<String> names) {
        for (Method method : TraverseClosed.class.getDeclaredMethods()) {
            if (Modifier.isPublic(method.getModifiers())) {
                due.isTrue(method.getName() + " is named", names.contains(method.getName()));
            }
        }
    }

    private static void testsAreNamed(Set<String> names) throws IOException {
        Set<String> there = new TreeSet<>();
        try (DirectoryStream<Path> files = Files.newDirectoryStream(TESTS, "*Test.java")) {
            for (Path file : files) {
                there.add(file.getFileName().toString().replace(".java", ""));
            }
        }
        Set<String> told = new TreeSet<>(names);
        told.removeIf(name -> !name.endsWith("Test"));
        due.isTrue("tests told are " + told + ", there are " + there, told.equals(there));
    }
}
