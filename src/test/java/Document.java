import java.io.IOException;
import java.nio.file.Files;
import java.nio.file.Path;

/** The document, read along with a test: what the test quotes, one sentence behind the other, is held against it. */
final class Document {
    private static final Path PLACE = Path.of("../shared/DOC.md");
    private static final StringBuilder QUOTED = new StringBuilder();

    private Document() {
    }

    /** A run on a new object that shows the sentence, which is quoted word for word. */
    static Run says(String sentence) {
        QUOTED.append(' ').append(sentence);
        return Run.of(sentence);
    }

    static Run says(String sentence, String calls) {
        return says(sentence).go(calls);
    }

    /** Whether all that stands in the document behind one line and ahead of another has been quoted, in its order. */
    static void isQuoted(String behind, String ahead) throws IOException {
        if (!Files.isReadable(PLACE)) {
            System.out.println("no document at " + PLACE + ": what was quoted is not held against it");
            return;
        }
        String text = Files.readString(PLACE);
        int from = text.indexOf(behind + "\n");
        int to = text.indexOf(ahead + "\n");
        Due.holds("the document has the lines " + behind + " and " + ahead, from >= 0 && to > from);
        if (from < 0 || to <= from) {
            return;
        }
        String due = words(withoutMarks(text.substring(from, to)));
        String quoted = words(QUOTED.toString());
        int same = 0;
        while (same < due.length() && same < quoted.length() && due.charAt(same) == quoted.charAt(same)) {
            same++;
        }
        String where = "quoted up to: .." + due.substring(Math.max(0, same - 60), same) + "; the document goes on: "
            + due.substring(same, Math.min(due.length(), same + 60));
        Due.holds(where, due.equals(quoted));
    }

    /** Without headings, rules, the face (LanguageTest has it) and the heads of the promises' calls. */
    private static String withoutMarks(String text) {
        return text.replaceAll("(?s)```java.*?```", "").replaceAll("(?m)^(#|====|```).*$", "").replaceAll("(?m)^`[^`]*`: ", "");
    }

    private static String words(String text) {
        return text.trim().replaceAll("\\s+", " ");
    }
}
