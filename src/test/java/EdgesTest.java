import java.io.IOException;
import java.nio.file.Path;

/** Each sentence of the document, by its own words, with the edges that it names; none may be left out. */
final class EdgesTest {
    public static void main(String[] args) throws IOException {
        Words.read(Path.of(args[0], "..", "shared", "DOC.md"));
        GroundEdges.all();
        SettingEdges.all();
        BlowEdges.all();
        LiftEdges.all();
        LoadEdges.all();
        RunEdges.all();
        OrderEdges.all();
        RecordEdges.all();
        ChangeEdges.all();
        Words.dueAllTested();
        Due.end("EdgesTest");
    }
}
