import java.io.IOException;
import java.lang.reflect.Constructor;
import java.lang.reflect.Field;
import java.lang.reflect.Method;
import java.lang.reflect.Modifier;
import java.nio.charset.StandardCharsets;
import java.nio.file.Files;
import java.nio.file.Path;
import java.util.Arrays;
import java.util.Set;
import java.util.TreeSet;
import java.util.regex.Matcher;
import java.util.regex.Pattern;
import java.util.stream.Collectors;

/** The face of the document, and those rules of LANGUAGE.md that reflection or the text can show. */
public final class RulesTest {
    private static final Path SOURCE = Path.of("src/main/java/TraverseClosed.java");
    private static final Path DOCUMENT = Path.of("../shared/DOC.md");
    private static final String[] FORBIDDEN = {
        "\\bthrow\\b", "\\bthrows\\b", "\\btry\\b", "\\bcatch\\b", "\\bsynchronized\\b", "\\bassert\\b",
        "->", "::", "\\bimport\\b", "\\bpackage\\b", "Exact\\b", "\\bhashCode\\b", "\\btoString\\b",
        "\\bnative\\b", "\\bvolatile\\b", "\\bObject\\b", "\\bSystem\\.(?!arraycopy\\b)", "\\bstatic \\{",
    };

    /** What rule 4 leaves of the library, as far as a class of numbers and texts may want it. */
    private static final Pattern LIBRARY = Pattern.compile("java/lang/(Object\\.<init>|System\\.arraycopy"
        + "|String\\.(length|charAt|isEmpty|equals|indexOf|substring|toCharArray|<init>)"
        + "|StringBuilder\\.(append|charAt|setCharAt|setLength|deleteCharAt|reverse|length|toString|<init>)"
        + "|(Integer|Long|Math)\\.(compare|max|min|abs|signum|bitCount|floorDiv|floorMod))"
        + "|java/util/Arrays\\.(copyOf|copyOfRange|fill)");
    private static final Pattern METHOD = Pattern.compile("( +)\\b(?:[\\w\\[\\]]+ )*\\w+\\([\\w\\[\\], ]*\\) \\{");
    private static final int MOST_LINES = 60;
    private static final int MOST_CLASSES = 12;
    private static final int MOST_FIELDS = 20;

    private static final Due due = new Due();

    public static void main(String[] args) throws IOException {
        due.about("rules");
        String text = Files.readString(SOURCE, StandardCharsets.UTF_8);
        face(Files.readString(DOCUMENT, StandardCharsets.UTF_8));
        nothingElseIsSeen();
        words(text.replaceAll("(?s)/\\*.*?\\*/|//[^\n]*|\"[^\"\n]*\"", " "));
        signs(text);
        sizes(text.split("\n"));
        compiled(TraverseClosed.class);
        for (Class<?> inside : TraverseClosed.class.getDeclaredClasses()) {
            compiled(inside);
        }
        due.end();
    }

    /** "int kind(int,int,int)", as the document's list of the face and as the class has it. */
    private static void face(String document) {
        Set<String> told = new TreeSet<>();
        Matcher m = Pattern.compile("public (int|long) (\\w+)\\(([^)]*)\\);").matcher(document);
        while (m.find()) {
            told.add(m.group(1) + " " + m.group(2) + "(" + m.group(3).replaceAll("(int|long) \\w+", "$1").replace(" ", "") + ")");
        }
        Set<String> there = new TreeSet<>();
        for (Method method : TraverseClosed.class.getDeclaredMethods()) {
            if (Modifier.isPublic(method.getModifiers())) {
                there.add(method.getReturnType() + " " + method.getName() + "("
                    + Arrays.stream(method.getParameterTypes()).map(Class::getName).collect(Collectors.joining(",")) + ")");
            }
        }
        due.is("methods", there.size(), 38);
        due.isTrue("the face is " + there + ", told is " + told, there.equals(told));
    }

    private static void nothingElseIsSeen() {
        int modifiers = TraverseClosed.class.getModifiers();
        due.isTrue("public and final", Modifier.isPublic(modifiers) && Modifier.isFinal(modifiers));
        Constructor<?>[] constructors = TraverseClosed.class.getDeclaredConstructors();
        due.is("constructors", constructors.length, 1);
        due.isTrue("public, without parameters",
            Modifier.isPublic(constructors[0].getModifiers()) && constructors[0].getParameterCount() == 0);
        Set<String> open = new TreeSet<>();
        for (Method method : TraverseClosed.class.getDeclaredMethods()) {
            if (Modifier.isPublic(method.getModifiers())) {
                open.add(method.getName());
            }
        }
        for (Method method : TraverseClosed.class.getDeclaredMethods()) {
            boolean isHidden = Modifier.isPrivate(method.getModifiers()) && !open.contains(method.getName());
            due.isTrue(method + " is of the face or hidden", Modifier.isPublic(method.getModifiers()) || isHidden);
        }
        for (Field field : TraverseClosed.class.getDeclaredFields()) {
            due.isTrue(field + " is private", Modifier.isPrivate(field.getModifiers()));
        }
        for (Class<?> inside : TraverseClosed.class.getDeclaredClasses()) {
            insideClass(inside, open);
        }
    }

    private static void insideClass(Class<?> inside, Set<String> open) {
        int modifiers = inside.getModifiers();
        due.isTrue(inside + " is static", Modifier.isStatic(modifiers));
        due.isTrue(inside + " is not open", !Modifier.isPublic(modifiers) && !Modifier.isProtected(modifiers));
        for (Method method : inside.getDeclaredMethods()) {
            due.isTrue(method + " has a name of its own", !open.contains(method.getName()));
            due.isTrue(method + " has seven parameters at most", method.getParameterCount() <= 7);
        }
        for (Field field : inside.getDeclaredFields()) {
            due.isTrue(field + " is final, if static",
                !Modifier.isStatic(field.getModifiers()) || Modifier.isFinal(field.getModifiers()));
        }
    }

    private static void words(String code) {
        for (String word : FORBIDDEN) {
            Matcher m = Pattern.compile(word).matcher(code);
            due.isTrue("no " + word, !m.find());
        }
    }

    private static void signs(String text) {
        due.isTrue("signs 1 to 127 alone", text.chars().allMatch(c -> c > 0 && c < 128));
    }

    private static void sizes(String[] lines) {
        int methods = 0;
        for (int i = 0; i < lines.length; i++) {
            Matcher m = METHOD.matcher(lines[i]);
            if (m.matches()) {
                int end = i;
                while (end < lines.length && !lines[end].equals(m.group(1) + "}")) {
                    end++;
                }
                due.isTrue(lines[i] + " is of " + (end - i + 1) + " lines", end - i < MOST_LINES);
                methods++;
            }
        }
        due.isTrue("methods are found", methods > 38);
        due.isTrue("classes", TraverseClosed.class.getDeclaredClasses().length < MOST_CLASSES);
    }

    private static void compiled(Class<?> one) throws IOException {
        Compiled compiled = Compiled.of(one);
        due.isTrue(one + " binds no calls when it runs", !compiled.bindsCalls());
        for (String use : compiled.uses()) {
            boolean isOwn = use.startsWith("TraverseClosed.") || use.startsWith("TraverseClosed$");
            due.isTrue(one + " uses " + use, isOwn || LIBRARY.matcher(use).matches());
        }
        long fields = Arrays.stream(one.getDeclaredFields()).filter(f -> !Modifier.isStatic(f.getModifiers())).count();
        due.isTrue(one + " has " + fields + " fields", fields <= MOST_FIELDS);
    }
}
