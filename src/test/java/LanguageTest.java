import java.io.IOException;
import java.lang.reflect.Executable;
import java.lang.reflect.Field;
import java.lang.reflect.Modifier;
import java.nio.file.Files;
import java.nio.file.Path;
import java.util.ArrayList;
import java.util.Arrays;
import java.util.List;
import java.util.Set;
import java.util.TreeSet;
import java.util.regex.Matcher;
import java.util.regex.Pattern;

/** What of LANGUAGE.md can be seen by a plain look; the number of the rule stands in what is printed. */
public final class LanguageTest {
    /** What no rule of LANGUAGE.md leaves; what it does leave (a switch with arrows) is let through. */
    private static final String[] FORBIDDEN = {
        "\\bthrows?\\b", "\\btry\\b", "\\bcatch\\b", "\\bsynchronized\\b", "\\bassert\\b",
        "^(?!\\s*(case\\b|default\\b)).*->", "::", "\\bpackage\\b", "\\bstatic\\s*\\{",
        "\\bimport\\s+(?!java\\.util\\.(ArrayList|List|Arrays|Iterator);)", "\\w+Exact\\b", "\\bMath\\.random\\b",
        "\\bSystem\\.(?!arraycopy\\b)", "\\bboolean equals\\(", "\\bhashCode\\b", "\\bString toString\\(",
        "\\bwhile\\s*\\(\\s*true\\s*\\)", "\\bfor\\s*\\([^;)]*;\\s*;"};

    /** Rules 3 and 4: the classes that are not the program's own. */
    private static final Set<String> LIBRARY = Set.of("String", "StringBuilder", "Integer", "Long", "Math",
        "ArrayList", "List", "Arrays", "System", "Iterator", "Iterable", "Comparable", "Override");

    /** Rule 5, for a class without enums. */
    private static final Set<Class<?>> CONSTANTS = Set.of(int.class, long.class, boolean.class, char.class,
        String.class, int[].class, long[].class, char[].class, byte[].class);

    private static final int LONGEST_METHOD = 60;

    public static void main(String[] args) throws IOException {
        List<Class<?>> classes = new ArrayList<>(List.of(CarDesk.class));
        classes.addAll(Arrays.asList(CarDesk.class.getDeclaredClasses()));
        Due.due("11: classes", classes.size() <= 12, true);
        for (Class<?> type : classes) {
            fields(type);
            parameters(type.getDeclaredMethods());
            parameters(type.getDeclaredConstructors());
        }
        nestedClasses();
        source(classes);
        Due.end();
    }

    private static void nestedClasses() {
        for (Class<?> inside : CarDesk.class.getDeclaredClasses()) {
            int modifiers = inside.getModifiers();
            Due.due("2: static: " + inside, Modifier.isStatic(modifiers), true);
            Due.due("1: public: " + inside, Modifier.isPublic(modifiers), false);
            Due.due("1: protected: " + inside, Modifier.isProtected(modifiers), false);
            Due.due("2: no class inside " + inside, inside.getDeclaredClasses().length, 0);
        }
    }

    private static void fields(Class<?> type) {
        int held = 0;
        for (Field field : type.getDeclaredFields()) {
            int modifiers = field.getModifiers();
            Due.due("1: private: " + field, Modifier.isPrivate(modifiers) || type != CarDesk.class, true);
            if (Modifier.isStatic(modifiers)) {
                Due.due("5: final: " + field, Modifier.isFinal(modifiers), true);
                Due.due("5: a constant: " + field, CONSTANTS.contains(field.getType()), true);
            } else {
                held++;
            }
        }
        Due.due("11: fields of " + type + ": " + held, held <= 20, true);
    }

    private static void parameters(Executable[] methods) {
        for (Executable method : methods) {
            Due.due("11: parameters of " + method, method.getParameterCount() <= 7, true);
        }
    }

    private static void source(List<Class<?>> classes) throws IOException {
        Path path = Path.of(System.getProperty("cardesk.source", "src/main/java/CarDesk.java"));
        String text = Files.readString(path);
        String code = text.replaceAll("(?s)/\\*.*?\\*/", "").replaceAll("//.*", "");
        for (String word : FORBIDDEN) {
            Matcher matcher = Pattern.compile(word, Pattern.MULTILINE).matcher(code);
            Due.due("the source has " + word, matcher.find(), false);
        }
        Due.due("3: characters 0 to 255 alone", text.chars().allMatch(c -> c < 256), true);
        library(code, classes);
        lengths(code);
    }

    private static void library(String code, List<Class<?>> classes) {
        Set<String> known = new TreeSet<>(LIBRARY);
        for (Class<?> type : classes) {
            known.add(type.getSimpleName());
        }
        Matcher named = Pattern.compile("\\b[A-Z]\\w*[a-z]\\w*\\b").matcher(code);
        while (named.find()) {
            Due.due("4: " + named.group() + " is known", known.contains(named.group()), true);
        }
    }

    /** A method begins at a line that ends with ") {" and holds neither a statement nor an else. */
    private static void lengths(String code) {
        String[] lines = code.split("\n");
        Pattern begins = Pattern.compile("^( +)(public|private|static|long|int|boolean|void)\\b.*\\) \\{$");
        for (int i = 0; i < lines.length; i++) {
            Matcher matcher = begins.matcher(lines[i]);
            if (matcher.matches()) {
                int length = 1;
                while (i + length < lines.length && !lines[i + length].equals(matcher.group(1) + "}")) {
                    length++;
                }
                Due.due("11: lines of " + lines[i].trim(), length < LONGEST_METHOD, true);
            }
        }
    }
}
