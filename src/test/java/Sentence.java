import java.io.IOException;
import java.nio.file.Files;
import java.nio.file.Path;
import java.util.regex.Pattern;

/** Holds the class to one sentence of the document at a time, which stands beside its test. */
final class Sentence {
    private static final Path DOCUMENT = Path.of("../shared/DOC.md");
    /** Stands in a sentence where some of the document's words have been left out. */
    private static final String GAP = " ... ";
    private static final String TEXT = read();

    private static int tests = 0;

    private Sentence() {
    }

    static void holds(String sentence, Runnable test) {
        tests++;
        int wrongBefore = Desk.wrong();
        Desk.due("whether the document has these words", isInDocument(sentence), true);
        int checksBefore = Desk.checks();
        try {
            test.run();
        } catch (RuntimeException e) {
            Desk.due("the test", "an exception: " + e, "no exception");
        }
        Desk.due("whether the test checked something", Desk.checks() > checksBefore, true);
        if (Desk.wrong() > wrongBefore) {
            System.out.println("NOT HELD: " + sentence);
        }
    }

    static void end() {
        System.out.print(tests + " tests of a sentence, ");
        Desk.end();
    }

    /** A quotation that the document does not have would hold the class to nothing. */
    private static boolean isInDocument(String sentence) {
        int from = 0;
        for (String part : sentence.split(Pattern.quote(GAP))) {
            int found = TEXT.indexOf(part, from);
            if (found < 0) {
                return TEXT.isEmpty();
            }
            from = found + part.length();
        }
        return true;
    }

    private static String read() {
        try {
            return Files.readString(DOCUMENT).replaceAll("\\s+", " ");
        } catch (IOException e) {
            // the tests themselves do not need the document
            return "";
        }
    }
}
