import java.io.IOException;
import java.nio.file.Files;
import java.nio.file.Path;
import java.util.List;
import java.util.regex.Matcher;
import java.util.regex.Pattern;

/**
 * Makes a test of the java blocks of README.md: the lines of each block are compiled as they stand there, and each
 * call is compared with the answer behind it. The first argument is the page, the second one the file to write.
 */
final class ReadmeCalls {
    private static final Pattern ANSWERED = Pattern.compile("(sets\\..+); *// (-?\\d+|[A-Z]{2,}_[A-Z]+)(:.*)?");
    private static final String NAME = "ReadmeCallsTest";

    private final StringBuilder program = new StringBuilder();
    private int blocks = 0;
    private int compared = 0;
    private int faults = 0;

    private ReadmeCalls() {
    }

    public static void main(String[] args) throws IOException {
        ReadmeCalls calls = new ReadmeCalls();
        calls.write(Files.readAllLines(Path.of(args[0])));
        Files.writeString(Path.of(args[1]), calls.program);
        System.out.println("README.md: " + calls.blocks + " blocks, " + calls.compared + " calls with answers");
        System.exit(calls.faults == 0 && calls.compared > 0 ? 0 : 1);
    }

    private void write(List<String> page) {
        line("final class " + NAME + " {");
        boolean inside = false;
        for (int i = 0; i < page.size(); i++) {
            String told = page.get(i);
            if (!inside && told.equals("```java")) {
                inside = true;
                line("    private static void block" + blocks + "() {");
                blocks++;
            } else if (inside && told.equals("```")) {
                inside = false;
                line("    }");
            } else if (inside) {
                writeShown(told, i + 1);
            }
        }
        writeMain();
        line("}");
    }

    private void writeShown(String told, int number) {
        Matcher answered = ANSWERED.matcher(told);
        if (answered.matches()) {
            String call = answered.group(1);
            String answer = answered.group(2);
            String due = Character.isLetter(answer.charAt(0)) ? "PileSets." + answer : answer;
            String name = "README.md, line " + number + ": " + quoted(call);
            line("        Due.due(\"" + name + "\", " + call + ", " + due + ");");
            compared++;
        } else {
            // A call in a loop is a step alone; any other one must tell its answer.
            if (told.startsWith("sets.")) {
                System.out.println("README.md, line " + number + ": no answer behind " + told);
                faults++;
            }
            line("        " + told);
        }
    }

    private void writeMain() {
        line("    public static void main(String[] args) {");
        for (int i = 0; i < blocks; i++) {
            line("        block" + i + "();");
        }
        line("        Due.end(\"" + NAME + "\");");
        line("    }");
    }

    private static String quoted(String text) {
        return text.replace("\\", "\\\\").replace("\"", "\\\"");
    }

    private void line(String text) {
        program.append(text).append('\n');
    }
}
