import java.io.IOException;
import java.lang.reflect.Constructor;
import java.lang.reflect.Field;
import java.lang.reflect.Method;
import java.lang.reflect.Modifier;
import java.nio.file.Files;
import java.nio.file.Path;
import java.util.ArrayList;
import java.util.List;
import java.util.TreeSet;
import java.util.regex.Matcher;
import java.util.regex.Pattern;

/** The public face of the document, and what LANGUAGE.md forbids by the look of the source. */
final class FaceTest {
    private static final String[] METHODS = {
        "int stratum(int,int,int)", "int cut()", "int ground(int,int)", "int at(int)", "int set(int,int)",
        "long count(int)", "int pile(int,int,int)", "int pileOf(int,int)", "int blow(int,int,int)",
        "int strike(int,int)", "int drive(int,int,int,int)", "int would(int,int)", "int fallFor(int,int)",
        "int blowsTo(int,int,int)", "int test(int,int)", "int undo()", "int runs(int)", "int run(int,int,int)",
        "int order(int,int,int)", "int leastLift(int,int)", "int type(int)", "int clearText()", "int fault(int)",
        "int carry()"
    };
    private static final String[] FORBIDDEN = {
        "\\bthrow\\b", "\\btry\\b", "\\bcatch\\b", "\\bsynchronized\\b", "\\bassert\\b", "\\bimport\\b",
        "\\bpackage\\b", "->", "::", "\\bSystem\\.(?!arraycopy)", "\\bThread\\b", "Exact\\b", "\\bprotected\\b"
    };

    public static void main(String[] args) throws IOException {
        constants();
        constructors();
        methods();
        fields();
        String source = Files.readString(Path.of(args[0], "src", "main", "java", "PileSets.java"));
        forbidden(source);
        documentFace(Path.of(args[0], "..", "shared", "DOC.md"), source);
        Due.end("FaceTest");
    }

    private static void constants() {
        Due.due("INVALID_ARGUMENT", PileSets.INVALID_ARGUMENT, -1);
        Due.due("NOT_POSSIBLE", PileSets.NOT_POSSIBLE, -2);
        Due.due("LIMIT_REACHED", PileSets.LIMIT_REACHED, -3);
        Due.due("NOT_FOUND", PileSets.NOT_FOUND, -4);
    }

    private static void constructors() {
        Due.dueTrue("public and final", PileSets.class.getModifiers() == (Modifier.PUBLIC | Modifier.FINAL));
        Constructor<?>[] constructors = PileSets.class.getDeclaredConstructors();
        Due.due("constructors", constructors.length, 1);
        Due.due("parameters of the constructor", constructors[0].getParameterCount(), 0);
        Due.dueTrue("a public constructor", Modifier.isPublic(constructors[0].getModifiers()));
    }

    private static void methods() {
        TreeSet<String> face = new TreeSet<>(List.of(METHODS));
        TreeSet<String> names = names();
        TreeSet<String> found = new TreeSet<>();
        for (Method method : PileSets.class.getDeclaredMethods()) {
            if (Modifier.isPrivate(method.getModifiers())) {
                Due.dueTrue("no private method " + method.getName(), !names.contains(method.getName()));
            } else {
                Due.dueTrue(method + " is public alone", method.getModifiers() == Modifier.PUBLIC);
                found.add(textOf(method));
            }
        }
        if (!found.equals(face)) {
            System.out.println("the face is " + found);
        }
        Due.dueTrue("the methods are those of the document", found.equals(face));
    }

    private static TreeSet<String> names() {
        TreeSet<String> names = new TreeSet<>();
        for (String method : METHODS) {
            names.add(method.substring(method.indexOf(' ') + 1, method.indexOf('(')));
        }
        return names;
    }

    private static String textOf(Method method) {
        List<String> parameters = new ArrayList<>();
        for (Class<?> parameter : method.getParameterTypes()) {
            parameters.add(parameter.getName());
        }
        return method.getReturnType().getName() + " " + method.getName() + "(" + String.join(",", parameters) + ")";
    }

    private static void fields() {
        int constants = 0;
        for (Field field : PileSets.class.getDeclaredFields()) {
            if (!Modifier.isPrivate(field.getModifiers())) {
                constants++;
                Due.dueTrue(field + " is a constant",
                        field.getModifiers() == (Modifier.PUBLIC | Modifier.STATIC | Modifier.FINAL));
            }
            if (Modifier.isStatic(field.getModifiers())) {
                Due.dueTrue(field + " is final", Modifier.isFinal(field.getModifiers()));
            }
        }
        Due.due("public constants", constants, 4);
        for (Class<?> inside : PileSets.class.getDeclaredClasses()) {
            Due.dueTrue(inside + " is static", Modifier.isStatic(inside.getModifiers()));
            Due.dueTrue(inside + " is not public", !Modifier.isPublic(inside.getModifiers()));
            for (Method method : inside.getDeclaredMethods()) {
                Due.dueTrue(method + " is private", Modifier.isPrivate(method.getModifiers()));
                Due.dueTrue(method + " has no public name", !names().contains(method.getName()));
            }
        }
    }

    private static void forbidden(String source) {
        String code = source.replaceAll("(?s)/\\*.*?\\*/", "").replaceAll("//[^\n]*", "");
        for (String forbidden : FORBIDDEN) {
            Matcher matcher = Pattern.compile(forbidden).matcher(code);
            Due.dueTrue("no " + forbidden + " in the source", !matcher.find());
        }
    }

    /** Each line of the face that the document shows stands in the source, with the names of its parameters. */
    private static void documentFace(Path document, String source) throws IOException {
        if (!Files.isReadable(document)) {
            System.out.println("no document at " + document + ": the face is not compared with it");
            return;
        }
        int lines = 0;
        for (String told : Files.readAllLines(document)) {
            if (told.trim().startsWith("public ")) {
                boolean isCall = told.contains("(");
                String due = isCall ? told.replace(";", " {") : told;
                Due.dueTrue("the source has '" + due + "'", source.contains(due + "\n"));
                lines++;
            }
        }
        Due.due("lines of the face in the document", lines, METHODS.length + 6);
    }
}
