import java.io.IOException;
import java.nio.file.Files;
import java.nio.file.Path;
import java.util.ArrayList;
import java.util.List;

/**
 * Goes through sections of the document, part by part: each part is quoted, in its place, and has answers that would
 * be others if it were broken. A part that is left out, or has no answer, is a fault of the test. Where there is no
 * document, the parts stand by themselves.
 */
final class Sentences {
    private static final Path DOCUMENT = Path.of("../shared/DOC.md");

    private final Due due = new Due();
    private final boolean isThere = Files.exists(DOCUMENT);
    private final String document;
    private final List<String> titles = new ArrayList<>();
    private String title = "";
    private String rest = "";
    private String part = "";
    private int answers = 1;

    Sentences() throws IOException {
        document = isThere ? Files.readString(DOCUMENT) : "";
    }

    /** The section with this title is gone through from here on; the one ahead of it must be at its end. */
    void section(String itsTitle) {
        close();
        title = itsTitle;
        titles.add(title);
        if (isThere) {
            open();
        }
    }

    private void open() {
        String head = "\n## " + title + "\n";
        int from = document.indexOf(head);
        due.is("the document has " + title, from < 0 ? 0 : 1, 1);
        int to = document.indexOf("\n## ", from + 1);
        String text = from < 0 ? "" : document.substring(from + head.length(), to < 0 ? document.length() : to);
        rest = even(text.replaceAll("(?m)^```\\w*$", "").replaceFirst("^\\s*`[^`]*`:", ""));
    }

    /** The next part of the section. */
    void says(String words) {
        leavePart();
        part = words;
        answers = 0;
        if (isThere) {
            goBehind(words);
        }
    }

    private void goBehind(String words) {
        boolean isNext = rest.startsWith(even(words));
        due.is(title + " goes on with: " + words + " (it goes on with: " + rest + ")", isNext ? 1 : 0, 1);
        rest = isNext ? rest.substring(even(words).length()).trim() : rest;
    }

    void is(String call, long got, long want) {
        due.is(title + ", " + part + " " + call, got, want);
        answers++;
    }

    /** Calls of one kind with the answers that are due. */
    void are(String calls, long[] got, long... want) {
        is(calls + ", how many", got.length, want.length);
        for (int i = 0; i < got.length && i < want.length; i++) {
            is(calls + ", answer " + i, got[i], want[i]);
        }
    }

    /** Calls that all have one answer. */
    void all(String calls, long want, long... got) {
        is(calls + ", any", got.length > 0 ? 1 : 0, 1);
        for (int i = 0; i < got.length; i++) {
            is(calls + ", answer " + i, got[i], want);
        }
    }

    void end() {
        close();
        due.end();
    }

    /** These promises, and no others, must have been gone through, in their order. */
    void endOfPromises(int first, int last) {
        due.is("promises from " + first + " to " + last, titles.size(), last - first + 1);
        for (int i = 0; i < titles.size(); i++) {
            String number = "Promise " + (first + i) + ":";
            due.is(titles.get(i) + " is " + number, titles.get(i).startsWith(number) ? 1 : 0, 1);
        }
        end();
    }

    private void close() {
        leavePart();
        due.is(title + " is not at its end: " + rest, rest.length(), 0);
    }

    private void leavePart() {
        due.is(title + " has answers for: " + part, answers > 0 ? 1 : 0, 1);
    }

    private static String even(String text) {
        return text.replaceAll("\\s+", " ").trim();
    }
}
