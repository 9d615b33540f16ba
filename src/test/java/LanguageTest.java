import java.io.IOException;
import java.nio.file.Path;
import java.util.List;

/** What ../shared/LANGUAGE.md asks of the program beyond what it answers. */
public final class LanguageTest {
    private static final Path PROGRAM = Path.of("src", "main", "java", "GhostGame.java");
    private static final int DEEPEST = 8;

    public static void main(String[] args) throws IOException {
        CallGraph graph = CallGraph.of(PROGRAM);
        Probe.promise("LANGUAGE.md, rule 11, 'calls that are no recursion go at most eight deep'");
        List<String> chain = graph.deepest();
        Probe.due("at most " + DEEPEST + ", " + chain.size() + " in " + chain,
                chain.size() <= DEEPEST, true);
        Probe.due("the calls were read at all", graph.methods() > DEEPEST && chain.size() > 1,
                true);
        Probe.finish("LanguageTest");
    }
}
