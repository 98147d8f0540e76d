import java.io.IOException;
import java.io.UncheckedIOException;
import java.nio.file.Files;
import java.nio.file.Path;
import java.util.ArrayList;
import java.util.Arrays;
import java.util.List;

/** The sentences of one section of the document, each with the test that fails if it is broken. */
final class Sentences {
    private final String section;
    private final List<String> quoted = new ArrayList<>();

    Sentences(String section) {
        this.section = section;
    }

    void holds(String words, Runnable test) {
        quoted.add(words);
        Due.about(words);
        test.run();
        Due.about("");
    }

    /** Ends a test of a whole section: no word of it may stand without a test. */
    void end() {
        String text = text();
        boolean[] covered = coveredBy(text);
        StringBuilder left = new StringBuilder();
        for (int i = 0; i < text.length(); i++) {
            boolean word = Character.isLetterOrDigit(text.charAt(i));
            left.append(word && !covered[i] ? text.charAt(i) : ' ');
        }
        String untested = left.toString().trim().replaceAll("\\s+", " ");
        Due.due(section + ": without a test \"" + untested + "\"", untested.isEmpty(), true);
        Due.end();
    }

    private boolean[] coveredBy(String text) {
        boolean[] covered = new boolean[text.length()];
        for (String words : quoted) {
            int at = text.indexOf(words);
            Due.due(section + " says \"" + words + "\"", text.isEmpty() || at >= 0, true);
            if (at >= 0) {
                Arrays.fill(covered, at, at + words.length(), true);
            }
        }
        return covered;
    }

    private String text() {
        return textOf(section);
    }

    /** A section in one line, without the signature that it begins with; empty without a document. */
    static String textOf(String section) {
        Path path = Path.of(System.getProperty("cardesk.document", "../shared/DOC.md"));
        if (!Files.exists(path)) {
            System.out.println("no document at " + path + ": the words of the tests are not looked up");
            return "";
        }
        String text = read(path).replaceAll("\\s+", " ");
        int start = text.indexOf("## " + section + " ");
        int end = text.indexOf(" ## ", start + 1);
        Due.due("the document has the section " + section, start >= 0 && end > start, true);
        return start < 0 || end < start ? "" : text.substring(start + section.length() + 4, end)
            .replaceAll("```(text|java)?", "").replaceAll("^`[^`]*`: ", "").replaceAll("\\s+", " ");
    }

    private static String read(Path path) {
        try {
            return Files.readString(path);
        } catch (IOException e) {
            throw new UncheckedIOException(e);
        }
    }
}
