import java.io.IOException;
import java.nio.charset.StandardCharsets;
import java.nio.file.Files;
import java.nio.file.Path;
import java.util.ArrayList;
import java.util.List;
import java.util.function.Consumer;

/**
 * One passage of the document, and its tests: each names the words of the passage that it stands for. Words
 * that do not stand there are told, and so are words of the passage that no test has named.
 */
final class Passage {
    private static final Path DOCUMENT = Path.of("..", "shared", "DOC.md");

    private final Due due = new Due();
    private final String place;
    private final String text;
    private final boolean[] named;

    private Passage(String place, String text) {
        this.place = place;
        this.text = text;
        named = new boolean[text.length()];
    }

    /** What stands below a heading, without the face of the method that it begins with. */
    static Passage section(String heading) {
        String text = String.join(" ", paragraphs(heading));
        return new Passage(heading, text.startsWith("`") ? text.substring(text.indexOf("`: ") + 3) : text);
    }

    /** The one paragraph below a heading that begins with these words. */
    static Passage paragraph(String heading, String opening) {
        for (String each : paragraphs(heading)) {
            if (each.startsWith(opening)) {
                return new Passage(heading, each);
            }
        }
        return new Passage(heading + ", " + opening, "");
    }

    Passage sentence(String words, Consumer<Due> test) {
        due.under(place + ": " + words);
        if (isHere() && !name(words)) {
            due.tell("these words do not stand in " + DOCUMENT);
        }
        int before = due.looked();
        test.accept(due);
        if (due.looked() == before) {
            due.tell("its test looks at nothing");
        }
        return this;
    }

    void end() {
        due.under(place);
        for (String each : isHere() ? unnamed() : List.<String>of()) {
            due.tell("no test names the words: " + each);
        }
        due.end();
    }

    /** The tests themselves need no document: where there is none, only the words are not compared. */
    private static boolean isHere() {
        return Files.exists(DOCUMENT);
    }

    private boolean name(String words) {
        int at = text.indexOf(words);
        while (at >= 0 && named[at] && text.indexOf(words, at + 1) >= 0) {
            at = text.indexOf(words, at + 1);
        }
        for (int i = at; at >= 0 && i < at + words.length(); i++) {
            named[i] = true;
        }
        return at >= 0;
    }

    private List<String> unnamed() {
        List<String> found = new ArrayList<>();
        StringBuilder words = new StringBuilder();
        for (int i = 0; i <= named.length; i++) {
            if (i < named.length && !named[i]) {
                words.append(text.charAt(i));
                continue;
            }
            if (words.chars().anyMatch(Character::isLetterOrDigit)) {
                found.add(words.toString().trim());
            }
            words.setLength(0);
        }
        return found;
    }

    static List<String> headings() {
        return lines().stream().filter(each -> each.startsWith("## ")).map(each -> each.substring(3)).toList();
    }

    static List<String> paragraphs(String heading) {
        List<String> found = new ArrayList<>();
        StringBuilder paragraph = new StringBuilder();
        boolean inside = false;
        for (String line : lines()) {
            if (line.startsWith("## ")) {
                inside = line.equals("## " + heading);
            } else if (inside && line.isBlank()) {
                keep(found, paragraph);
            } else if (inside && !line.startsWith("```")) {
                paragraph.append(line.trim()).append(' ');
            }
        }
        keep(found, paragraph);
        return found;
    }

    private static void keep(List<String> found, StringBuilder paragraph) {
        if (paragraph.length() > 0) {
            found.add(paragraph.toString().trim());
            paragraph.setLength(0);
        }
    }

    private static List<String> lines() {
        if (!isHere()) {
            System.out.println(DOCUMENT + " is not here: words are not compared with it");
            return List.of();
        }
        try {
            return Files.readAllLines(DOCUMENT, StandardCharsets.UTF_8);
        } catch (IOException e) {
            throw new IllegalStateException(e);
        }
    }
}
