import java.lang.reflect.Constructor;
import java.lang.reflect.Method;
import java.lang.reflect.Modifier;
import java.util.Set;
import java.util.TreeSet;
import java.util.regex.Matcher;
import java.util.regex.Pattern;

/** The public face: the class, its constructor and its nine methods, and no more. */
public final class PublicFaceTest {
    private static final Set<String> FACE = Set.of(
        "public CarDesk()",
        "public int collect(int, long)", "public int answer(int, long)", "public int fails(int, int)",
        "public int make(int)", "public long call(int, int, long)", "public int told(int)",
        "public boolean drop(int)", "public int numbers(int)", "public long again(int, int, long)");

    private static final Pattern DECLARED = Pattern.compile("public [\\w ]*\\([\\w ,]*\\)(?=;)");

    public static void main(String[] args) {
        ofTheDocument();
        Due.due("public and final", CarDesk.class.getModifiers(), Modifier.PUBLIC | Modifier.FINAL);
        Due.due("a class of Object alone", CarDesk.class.getSuperclass() == Object.class, true);
        Due.due("without an interface", CarDesk.class.getInterfaces().length, 0);
        Due.due("without a package", CarDesk.class.getPackageName().isEmpty(), true);
        Set<String> open = openMembers();
        Due.due("the face is " + open, open.equals(FACE), true);
        namesOfPrivateMethods();
        Due.end();
    }

    /** The face above is that of the document: its block is read and compared. */
    private static void ofTheDocument() {
        String text = Sentences.textOf("The public face");
        if (text.isEmpty()) {
            return;
        }
        Due.due("the document's class", text.contains("public final class CarDesk {"), true);
        Set<String> declared = new TreeSet<>();
        Matcher matcher = DECLARED.matcher(text);
        while (matcher.find()) {
            declared.add(matcher.group().replaceAll("(int|long|boolean) \\w+(?=[,)])", "$1"));
        }
        Due.due("the document's face is " + declared, declared.equals(FACE), true);
    }

    private static Set<String> openMembers() {
        Set<String> open = new TreeSet<>();
        for (Constructor<?> constructor : CarDesk.class.getDeclaredConstructors()) {
            open.add(constructor.toString().replace(",", ", "));
        }
        for (Method method : CarDesk.class.getDeclaredMethods()) {
            if (!Modifier.isPrivate(method.getModifiers())) {
                open.add(method.toString().replace("CarDesk.", "").replace(",", ", "));
            }
        }
        return open;
    }

    private static void namesOfPrivateMethods() {
        for (Method method : CarDesk.class.getDeclaredMethods()) {
            boolean hidden = Modifier.isPrivate(method.getModifiers());
            boolean ofTheFace = FACE.stream().anyMatch(member -> member.contains(" " + method.getName() + "("));
            Due.due("private with a public name: " + method, hidden && ofTheFace, false);
        }
    }
}
