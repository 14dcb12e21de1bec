import java.io.IOException;
import java.nio.file.Files;
import java.nio.file.Path;
import java.util.List;
import java.util.regex.Matcher;
import java.util.regex.Pattern;

/** README.md tells what the document tells, in its words, and shows calls of each method, also those with errors. */
final class ReadmeTest {
    private static final String FACE = "## The public face";
    private static final String TERMS = "## Terms";
    private static final String NOT_PROMISED = "## Not promised";
    private static final String SETTINGS = "The settings are";
    private static final Pattern SETTING = Pattern.compile("(\\d) ([a-z ]+) \\((\\d+ to \\d+); (\\d+)\\)");
    private static final Pattern PROMISE = Pattern.compile("## Promise \\d+: (.+)");
    private static final Pattern ERROR = Pattern.compile("INVALID_ARGUMENT|NOT_POSSIBLE|LIMIT_REACHED|NOT_FOUND");

    private final List<String> page;
    private final List<String> document;

    private ReadmeTest(List<String> page, List<String> document) {
        this.page = page;
        this.document = document;
    }

    public static void main(String[] args) throws IOException {
        List<String> page = Files.readAllLines(Path.of(args[0], "README.md"));
        Path file = Path.of(args[0], "..", "shared", "DOC.md");
        Due.dueTrue("README.md has lines", !page.isEmpty());
        if (Files.isReadable(file)) {
            ReadmeTest test = new ReadmeTest(page, Files.readAllLines(file));
            test.tellsTheDocument();
            test.showsEachMethod();
        } else {
            System.out.println("no document at " + file + ": README.md is not compared with it");
        }
        Due.end("ReadmeTest");
    }

    /** The page may break its lines elsewhere than the document. */
    private static String joined(List<String> lines) {
        return String.join(" ", lines).replaceAll("\\s+", " ");
    }

    /** What the class is for, the terms, and all that each promise says of values and answers. */
    private void tellsTheDocument() {
        String words = joined(page);
        int face = document.indexOf(FACE);
        int terms = document.indexOf(TERMS);
        int end = document.indexOf(NOT_PROMISED);
        Due.dueTrue("the document has its parts", face > 0 && terms > face && end > terms);
        for (int i = 0; i < end; i++) {
            String told = document.get(i);
            if (told.startsWith(SETTINGS)) {
                dueSettings(words, told);
            } else if ((i < face || i > terms) && !isHeading(told)) {
                dueTold(words, told.replace("The constants: ", ""));
            }
        }
    }

    private static boolean isHeading(String told) {
        return told.startsWith("#") || told.startsWith("Ahead of the calls");
    }

    private static void dueTold(String words, String told) {
        Due.dueTrue("README.md tells: " + told, words.contains(told.trim()));
    }

    /** The settings stand in a table on the page. */
    private static void dueSettings(String words, String told) {
        Matcher setting = SETTING.matcher(told);
        int settings = 0;
        while (setting.find()) {
            dueTold(words, "| " + setting.group(1) + " | " + setting.group(2) + " | " + setting.group(3) + " | "
                    + setting.group(4) + " |");
            settings++;
        }
        Due.due("settings that the document tells", settings, 6);
    }

    private void showsEachMethod() {
        int promises = 0;
        for (int i = 0; i < document.size(); i++) {
            Matcher promise = PROMISE.matcher(document.get(i));
            if (promise.matches()) {
                dueShown(promise.group(1), joined(part(document, i)));
                promises++;
            }
        }
        Due.due("promises in the document", promises, 25);
    }

    /** Under the heading of a method stands what it promises, a call of it, and one with each error that it names. */
    private void dueShown(String name, String promise) {
        int start = page.indexOf("### " + name);
        Due.dueTrue("README.md has the heading " + name, start >= 0);
        if (start < 0) {
            return;
        }
        List<String> part = part(page, start);
        dueTold(joined(part), promise.substring(promise.indexOf('`'), promise.indexOf(": ", promise.indexOf('`'))));
        if (name.equals("A new object")) {
            dueCall(part, "PileSets sets = new PileSets\\(\\);.*");
            return;
        }
        String call = "sets\\." + name + "\\(.*\\); *// ";
        dueCall(part, call + "\\d.*");
        Matcher error = ERROR.matcher(promise);
        while (error.find()) {
            dueCall(part, call + error.group() + "\\b.*");
        }
    }

    private static void dueCall(List<String> part, String call) {
        Due.dueTrue("README.md shows " + call, part.stream().anyMatch(line -> line.matches(call)));
    }

    /** From a heading to the next one. */
    private static List<String> part(List<String> lines, int heading) {
        int end = heading + 1;
        while (end < lines.size() && !lines.get(end).startsWith("#")) {
            end++;
        }
        return lines.subList(heading, end);
    }
}
