import java.io.IOException;
import java.lang.reflect.Method;
import java.nio.file.Files;
import java.nio.file.Path;
import java.util.Set;
import java.util.TreeSet;
import java.util.regex.Matcher;
import java.util.regex.Pattern;

/** Does the examples of README.md; each must answer what stands behind it. */
public final class ReadmeTest {
    private static final String NEW_DESK = "CarDesk desk = new CarDesk();";
    private static final Pattern EXAMPLE = Pattern.compile("(?:for \\(int i = 0; i < (\\d+); i\\+\\+\\) )?"
        + "desk\\.(\\w+)\\(([-\\d, ]*)\\);\\s*// (-?\\d+|true|false)(?:: .*)?");

    private static CarDesk desk = null;
    private static final Set<String> SHOWN = new TreeSet<>();

    public static void main(String[] args) throws IOException, ReflectiveOperationException {
        String text = Files.readString(Path.of(System.getProperty("cardesk.readme", "README.md")));
        boolean example = false;
        for (String line : text.split("\n")) {
            if (line.startsWith("```")) {
                example = line.equals("```java");
            } else if (example) {
                doExample(line.trim());
            }
        }
        for (Method method : CarDesk.class.getMethods()) {
            boolean own = method.getDeclaringClass() == CarDesk.class;
            Due.due("README shows " + method.getName(), !own || SHOWN.contains(method.getName()), true);
        }
        for (int refusal = -4; refusal <= -1; refusal++) {
            Due.due("README tells of " + refusal, text.contains("| " + refusal + " "), true);
        }
        Due.due("README says how the tests are run", text.contains("```sh\n.ci/run\n```"), true);
        Due.end();
    }

    private static void doExample(String line) throws ReflectiveOperationException {
        if (line.equals(NEW_DESK)) {
            desk = new CarDesk();
            return;
        }
        Matcher matcher = EXAMPLE.matcher(line);
        boolean known = matcher.matches();
        Due.due("README: an example with its answer: " + line, known && desk != null, true);
        if (known && desk != null) {
            SHOWN.add(matcher.group(2));
            int turns = matcher.group(1) == null ? 1 : Integer.parseInt(matcher.group(1));
            Object got = lastAnswer(turns, matcher.group(2), matcher.group(3).split(", "));
            Due.due("README: " + line + " (" + got + ")", got.toString().equals(matcher.group(4)), true);
        }
    }

    private static Object lastAnswer(int turns, String name, String[] words) throws ReflectiveOperationException {
        Object last = "nothing";
        for (int i = 0; i < turns; i++) {
            last = answer(name, words);
        }
        return last;
    }

    private static Object answer(String name, String[] words) throws ReflectiveOperationException {
        for (Method method : CarDesk.class.getMethods()) {
            if (method.getName().equals(name) && method.getParameterCount() == words.length) {
                return method.invoke(desk, numbers(method.getParameterTypes(), words));
            }
        }
        return "there is no such method";
    }

    private static Object[] numbers(Class<?>[] types, String[] words) {
        Object[] numbers = new Object[words.length];
        for (int i = 0; i < words.length; i++) {
            long number = Long.parseLong(words[i]);
            if (types[i] == long.class) {
                numbers[i] = number;
            } else {
                numbers[i] = Math.toIntExact(number);
            }
        }
        return numbers;
    }
}
