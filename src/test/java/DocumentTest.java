import java.io.File;
import java.util.List;

/** Each promise, and each paragraph of the Terms, has a test class of its own, named by its number. */
final class DocumentTest {
    public static void main(String[] args) {
        Due due = new Due();
        List<String> promises = Passage.headings().stream().filter(each -> each.startsWith("Promise ")).toList();
        for (int i = 1; i <= Math.max(15, promises.size()); i++) {
            due.is("tests of promise " + i, testsNamed(String.format("P%02d", i)), 1);
        }
        for (int i = 1; i <= Math.max(9, Passage.paragraphs("Terms").size()); i++) {
            due.is("tests of paragraph " + i + " of the Terms", testsNamed("T" + i), 1);
        }
        due.end();
    }

    private static int testsNamed(String beginning) {
        File tests = new File("src/test/java");
        String[] found = tests.list((folder, name) -> name.startsWith(beginning) && name.endsWith("Test.java"));
        return found == null ? 0 : found.length;
    }
}
