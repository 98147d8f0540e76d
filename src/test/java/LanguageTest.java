import java.io.IOException;
import java.lang.reflect.Constructor;
import java.lang.reflect.Field;
import java.lang.reflect.Method;
import java.lang.reflect.Modifier;
import java.nio.file.Files;
import java.nio.file.Path;
import java.util.Arrays;
import java.util.Set;
import java.util.TreeSet;
import java.util.regex.Matcher;
import java.util.regex.Pattern;
import java.util.stream.Collectors;

/** The face of the document, and what of LANGUAGE.md can be seen by a plain look. */
public final class LanguageTest {
    private static final Set<String> FACE = Set.of(
        "public int CarDesk.collect(int,long)", "public int CarDesk.answer(int,long)",
        "public int CarDesk.fails(int,int)", "public int CarDesk.make(int)",
        "public long CarDesk.call(int,int,long)", "public int CarDesk.told(int)",
        "public boolean CarDesk.drop(int)", "public int CarDesk.numbers(int)",
        "public long CarDesk.again(int,int,long)");

    /** What no rule of LANGUAGE.md leaves; what it does leave (a switch with arrows) is let through. */
    private static final String[] FORBIDDEN = {
        "\\bthrows?\\b", "\\btry\\b", "\\bcatch\\b", "\\bsynchronized\\b", "\\bassert\\b",
        "^(?!\\s*(case\\b|default\\b)).*->", "::", "\\bpackage\\b", "\\bstatic\\s*\\{",
        "\\bimport\\s+(?!java\\.util\\.(ArrayList|List|Arrays|Iterator);)", "\\w+Exact\\b", "\\bMath\\.random\\b",
        "\\bSystem\\.(?!arraycopy\\b)", "\\bThread\\b", "\\bRandom\\b", "\\bboolean equals\\(", "\\bhashCode\\b",
        "\\bString toString\\("};

    public static void main(String[] args) throws IOException {
        face();
        nestedClasses();
        fields(CarDesk.class);
        source();
        Due.end();
    }

    private static void face() {
        Class<?> desk = CarDesk.class;
        Due.due("public and final", desk.getModifiers(), Modifier.PUBLIC | Modifier.FINAL);
        Set<String> open = new TreeSet<>();
        Set<String> names = new TreeSet<>();
        for (Method method : desk.getDeclaredMethods()) {
            if (!Modifier.isPrivate(method.getModifiers())) {
                open.add(method.toString());
                names.add(method.getName());
            }
        }
        Due.due("the face is " + open, open.equals(FACE), true);
        for (Method method : desk.getDeclaredMethods()) {
            boolean hidden = Modifier.isPrivate(method.getModifiers());
            Due.due("private with a public name: " + method, hidden && names.contains(method.getName()), false);
            Due.due("parameters of " + method, method.getParameterCount() <= 7, true);
        }
        Constructor<?>[] constructors = desk.getDeclaredConstructors();
        Due.due("constructors", constructors.length, 1);
        Due.due("constructor " + constructors[0], constructors[0].toString().equals("public CarDesk()"), true);
    }

    private static void nestedClasses() {
        Class<?>[] nested = CarDesk.class.getDeclaredClasses();
        Due.due("classes", nested.length < 12, true);
        for (Class<?> inside : nested) {
            Due.due("static: " + inside, Modifier.isStatic(inside.getModifiers()), true);
            Due.due("public: " + inside, Modifier.isPublic(inside.getModifiers()), false);
            Due.due("protected: " + inside, Modifier.isProtected(inside.getModifiers()), false);
            fields(inside);
        }
    }

    private static void fields(Class<?> type) {
        int held = 0;
        for (Field field : type.getDeclaredFields()) {
            int modifiers = field.getModifiers();
            Due.due("private: " + field, Modifier.isPrivate(modifiers) || type != CarDesk.class, true);
            Due.due("static but not final: " + field,
                Modifier.isStatic(modifiers) && !Modifier.isFinal(modifiers), false);
            held += Modifier.isStatic(modifiers) ? 0 : 1;
        }
        Due.due("fields of " + type + ": " + held, held <= 20, true);
    }

    private static void source() throws IOException {
        Path path = Path.of(System.getProperty("cardesk.source", "src/main/java/CarDesk.java"));
        String text = Files.readString(path);
        String code = Arrays.stream(text.replaceAll("(?s)/\\*.*?\\*/", "").split("\n"))
            .map(line -> line.replaceAll("//.*", ""))
            .collect(Collectors.joining("\n"));
        for (String word : FORBIDDEN) {
            Matcher matcher = Pattern.compile(word, Pattern.MULTILINE).matcher(code);
            Due.due("the source has " + word, matcher.find(), false);
        }
        Due.due("characters 0 to 255 alone", text.chars().allMatch(c -> c < 256), true);
    }
}
