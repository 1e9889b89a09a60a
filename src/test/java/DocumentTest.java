import java.io.IOException;
import java.nio.file.Files;
import java.nio.file.Path;
import java.util.ArrayList;
import java.util.Arrays;
import java.util.List;

/** Every word of the document, from its first line to promise 16, is one that some test is for. */
public final class DocumentTest {
    static final Path DOCUMENT = Path.of("..", "shared", "DOC.md");
    private static final int PROMISES = 16;

    private final String text;
    private final boolean[] tested;

    private DocumentTest(String text) {
        this.text = text;
        tested = new boolean[text.length()];
    }

    public static void main(String[] args) throws IOException {
        TermsTest.run();
        RulesTest.run();
        LengthsTest.run();
        CountsTest.run();
        DrawTest.run();
        NumberTest.run();
        List<DocumentTest> sections = sections(Files.readString(DOCUMENT));
        for (Check.Words words : List.copyOf(Check.said())) {
            boolean found = words.promise <= PROMISES && sections.get(words.promise).find(words.text);
            Check.due("the document has the words of " + words, true, found);
        }
        for (int promise = 0; promise <= PROMISES; promise++) {
            String left = sections.get(promise).untested();
            Check.due("words of promise " + promise + " without a test: " + left, 0, left.length());
        }
        Check.end();
    }

    /** The words before promise 1, then those of each promise; the signatures are for FaceTest. */
    private static List<DocumentTest> sections(String document) {
        String before = between(document, "# GrammarLoom\n", "## Promise 1:");
        List<DocumentTest> sections = new ArrayList<>();
        sections.add(new DocumentTest(onOneLine(before.replaceAll("(?s:```.*?```)|(?m:^#.*$)", ""))));
        for (int promise = 1; promise <= PROMISES; promise++) {
            String next = promise == PROMISES ? "## Not promised" : "## Promise " + (promise + 1) + ":";
            String section = between(document, "## Promise " + promise + ":", next);
            sections.add(new DocumentTest(onOneLine(section.replaceFirst("(?s)^.*?`[^`]*`:", ""))));
        }
        return sections;
    }

    private static String between(String document, String start, String end) {
        int from = document.indexOf(start);
        int to = document.indexOf(end, Math.max(0, from));
        Check.due("the document has a part from " + start.trim() + " to " + end, true, from >= 0 && to > from);
        return from >= 0 && to > from ? document.substring(from + start.length(), to) : "";
    }

    private static String onOneLine(String text) {
        return text.replaceAll("\\s+", " ");
    }

    private boolean find(String words) {
        int from = text.indexOf(words);
        if (from >= 0) {
            Arrays.fill(tested, from, from + words.length(), true);
        }
        return from >= 0;
    }

    private String untested() {
        StringBuilder left = new StringBuilder();
        for (int i = 0; i < tested.length; i++) {
            if (!tested[i] && Character.isLetterOrDigit(text.charAt(i))) {
                left.append(text.charAt(i));
            }
        }
        return left.toString();
    }
}
