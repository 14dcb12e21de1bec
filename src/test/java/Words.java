import java.io.IOException;
import java.nio.file.Files;
import java.nio.file.Path;

/** The words of the document: a test says for which ones it stands, and in the end none may be without a test. */
final class Words {
    private static final String FIRST = "## Terms";
    private static final String BEHIND_LAST = "## Not promised";
    private static String document = "";
    private static boolean[] tested = new boolean[0];
    private static boolean isRead = false;

    private Words() {
    }

    /** Where there is no document, the answers are asked all the same, and only the words are not compared. */
    static void read(Path file) throws IOException {
        isRead = Files.isReadable(file);
        if (isRead) {
            document = Files.readString(file);
            tested = new boolean[document.length()];
        } else {
            System.out.println("no document at " + file + ": the words of the tests are not compared with it");
        }
    }

    /** Names the words that the next answers are about; they must stand in the document just so. */
    static void of(String words) {
        Due.about(words);
        int start = document.indexOf(words);
        Due.dueTrue("these words are in the document", start >= 0 || !isRead);
        while (start >= 0) {
            for (int i = 0; i < words.length(); i++) {
                tested[start + i] = true;
            }
            start = document.indexOf(words, start + 1);
        }
    }

    /** Each sentence, or part of one behind a semicolon, has a test; headings say nothing that a test could ask. */
    static void dueAllTested() {
        Due.about("");
        int start = document.indexOf(FIRST);
        int end = document.indexOf(BEHIND_LAST);
        Due.dueTrue("the document has terms and promises", start >= 0 && end > start || !isRead);
        while (start >= 0 && start < end) {
            int next = endOfSentence(start, end);
            String sentence = document.substring(start, next).trim();
            boolean isHeading = sentence.isEmpty() || sentence.startsWith("#") || sentence.equals("Piles, lifting")
                    || sentence.startsWith("Ahead of the calls");
            Due.dueTrue("a test stands for: " + sentence, isHeading || isTested(start, next));
            start = next;
        }
    }

    private static int endOfSentence(int start, int end) {
        int next = start;
        while (next < end) {
            char character = document.charAt(next);
            next++;
            boolean stops = character == '.' || character == ';';
            if (character == '\n' || stops && next < end && document.charAt(next) == ' ') {
                return next;
            }
        }
        return end;
    }

    private static boolean isTested(int start, int end) {
        for (int i = start; i < end; i++) {
            if (tested[i]) {
                return true;
            }
        }
        return false;
    }
}
