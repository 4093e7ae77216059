import java.io.File;
import java.util.List;

/**
 * Each promise, and each paragraph of the Terms, has a test class of its own, named by its number; the document has
 * no section that the tests do not know.
 */
final class DocumentTest {
    /** "Not promised" alone has no test: it leaves free what it names. */
    private static final List<String> OTHER_SECTIONS = List.of("What it is", "The public face", "Terms", "Not promised");

    public static void main(String[] args) {
        Due due = new Due();
        List<String> promises = Passage.headings().stream().filter(each -> each.startsWith("Promise ")).toList();
        for (int i = 1; i <= Math.max(15, promises.size()); i++) {
            due.is("tests of promise " + i, testsNamed(String.format("P%02d", i)), 1);
        }
        for (int i = 1; i <= Math.max(9, Passage.paragraphs("Terms").size()); i++) {
            due.is("tests of paragraph " + i + " of the Terms", testsNamed("T" + i), 1);
        }
        for (String each : Passage.headings()) {
            due.is("known is \"" + each + "\"", promises.contains(each) || OTHER_SECTIONS.contains(each), true);
        }
        due.end();
    }

    private static int testsNamed(String beginning) {
        File tests = new File("src/test/java");
        String[] found = tests.list((folder, name) -> name.startsWith(beginning) && name.endsWith("Test.java"));
        return found == null ? 0 : found.length;
    }
}
