import java.io.IOException;
import java.lang.reflect.InvocationTargetException;
import java.lang.reflect.Method;
import java.util.Map;
import java.util.Set;
import java.util.TreeMap;
import java.util.TreeSet;

/**
 * Each sentence of the document has a test of its own, and holds. A wrong answer is told behind
 * the promise and the sentence; a sentence without a test, or a test without its sentence, is
 * wrong, too.
 */
public final class SentenceTest {
    private static final Class<?>[] FILES = {
        TermsSentences.class, SlipSentences.class, GameSentences.class, SolverSentences.class,
    };

    /** What names no boundary, nor anything else that a call could answer. */
    private static final Set<String> SAY_NOTHING_TO_TEST = Set.of(
            "Terms, 'The game.'",
            "Terms, 'Ahead of the calls `write`, `wipe`, `slipLength`, `slipAt`, `addWord`, "
                    + "`removeWord`, `isWord`, `words`, `wordsFromSlip`, `beginnings`, `copyWord`, "
                    + "`setLeastLength` the interface says: ---- the slip and the dictionary.'",
            "Terms, 'Ahead of the calls `start`, `play`, `challenge`, `turn`, `winner`, `players`, "
                    + "`strikes`, `fragmentLength`, `fragmentAt` the interface says: "
                    + "---- the game.'",
            "Terms, 'Ahead of the calls `openLetters`, `winningLetters`, `canWin`, `end`, "
                    + "`bestLetter`, `waysToPlay`, `waysToWin` the interface says: "
                    + "---- the solver.'");

    public static void main(String[] args) throws IOException {
        Map<String, Method> tests = new TreeMap<>();
        for (Class<?> file : FILES) {
            for (Class<?> group : file.getDeclaredClasses()) {
                collect(tests, group);
            }
        }
        for (Map.Entry<String, Method> test : tests.entrySet()) {
            Probe.promise(test.getKey());
            run(test.getValue());
        }
        compareWithDocument(tests.keySet());
        Probe.finish("SentenceTest, " + tests.size() + " sentences");
    }

    private static void collect(Map<String, Method> tests, Class<?> group) {
        String section = group.getAnnotation(Section.class).value();
        for (Method method : group.getDeclaredMethods()) {
            Sentence sentence = method.getAnnotation(Sentence.class);
            if (sentence != null) {
                String name = Document.named(section, sentence.value());
                Probe.promise(name);
                Probe.due("another test of it", tests.put(name, method) != null, false);
            }
        }
    }

    private static void run(Method test) {
        try {
            test.invoke(null);
        } catch (InvocationTargetException e) {
            Probe.due(test.getName(), e.getCause().toString(), "no exception");
        } catch (IllegalAccessException e) {
            Probe.due(test.getName(), e.toString(), "a test that can be run");
        }
    }

    private static void compareWithDocument(Set<String> tested) throws IOException {
        if (!Document.isThere()) {
            System.out.println("SentenceTest: no document here to compare the sentences with");
            return;
        }
        Set<String> written = new TreeSet<>(Document.sentences());
        for (String sentence : written) {
            Probe.promise(sentence);
            Probe.due("a test", tested.contains(sentence),
                    !SAY_NOTHING_TO_TEST.contains(sentence));
        }
        for (String sentence : tested) {
            Probe.promise(sentence);
            Probe.due("in the document", written.contains(sentence), true);
        }
    }
}
