import java.nio.file.Files;
import java.nio.file.Path;

/** The example of README.md, line by line: each answers what stands beside it, and stands there as it is here. */
public final class ReadmeTest {
    private static final String MARKS = "swap 0;ins 2 !;";

    private static String readme;

    public static void main(String[] args) throws Exception {
        readme = Files.readString(Path.of("README.md"));
        example();
        everyCallIsNamed();
        Checks.end("ReadmeTest");
    }

    private static void answers(String line, int got, int want, String told) {
        Checks.due(line, got, want);
        Checks.holds("README.md has \"" + line + "\" with \"" + told + "\"", readme.lines().anyMatch(
                one -> one.startsWith(line + " ") && one.contains("// " + told)));
    }

    private static void example() {
        ProofSheets x = new ProofSheets();
        Checks.due("x.put('a');", x.put('a'), 1);
        answers("x.put('b');", x.put('b'), 2, "2: ");
        answers("x.begin();", x.begin(), 2, "2: ");
        int sheet = x.send(3);
        answers("int sheet = x.send(3);", sheet, 0, "0: ");
        Checks.holds("the mark text of README.md", readme.contains("\"" + MARKS + "\".toCharArray()"));
        for (char c : MARKS.toCharArray()) {
            x.type(c);
        }
        answers("x.fault(sheet, 1);", x.fault(sheet, 1), ProofSheets.NOT_FOUND, "NOT_FOUND: ");
        answers("x.write(sheet);", x.write(sheet), 2, "2: ");
        answers("x.bring(sheet);", x.bring(sheet), 2, "2: ");
        answers("x.merge(sheet);", x.merge(sheet), 0, "0: ");
        answers("x.answer(x.next(), 0);", x.answer(x.next(), 0), 1, "1: ");
        answers("x.answer(x.next(), 1);", x.answer(x.next(), 1), 0, "0: ");
        answers("x.would(0);", x.would(0), 'b', "'b'");
        answers("x.finish();", x.finish(), 2, "2: ");
        Checks.text("the text that is told", x, "ba");
        Checks.due("the round that is told", x.count(1), 2);
        answers("x.undo();", x.undo(), 3, "3: ");
        Checks.due("the answers are given", x.count(5), 0);
        Checks.due("the round that is told", x.count(1), 1);
    }

    private static void everyCallIsNamed() {
        for (java.lang.reflect.Method method : ProofSheets.class.getDeclaredMethods()) {
            if (java.lang.reflect.Modifier.isPublic(method.getModifiers())) {
                Checks.holds("README.md names " + method.getName(), readme.contains("`" + method.getName() + "("));
            }
        }
    }
}
