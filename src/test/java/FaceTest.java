import java.lang.reflect.Constructor;
import java.lang.reflect.Field;
import java.lang.reflect.Method;
import java.lang.reflect.Modifier;
import java.util.ArrayList;
import java.util.Collections;
import java.util.List;

/** The public face: just the document's constants, constructors and methods, and nothing else. */
public final class FaceTest {
    private static final String[] FACE = {
        "public static final int NONE",
        "public GhostGame()",
        "public int write(int) throws IllegalArgumentException, IllegalStateException",
        "public int wipe()",
        "public int slipLength()",
        "public int slipAt(int) throws IndexOutOfBoundsException",
        "public int addWord() throws IllegalArgumentException, IllegalStateException",
        "public int removeWord() throws IllegalStateException",
        "public boolean isWord()",
        "public int words()",
        "public int wordsFromSlip()",
        "public int beginnings()",
        "public int copyWord(int) throws IndexOutOfBoundsException",
        "public int setLeastLength(int) throws IllegalArgumentException",
        "public void start(int) throws IllegalArgumentException",
        "public int play(int) throws IllegalArgumentException, IllegalStateException",
        "public int challenge() throws IllegalStateException",
        "public int turn()",
        "public int winner()",
        "public int players()",
        "public int strikes(int) throws IndexOutOfBoundsException",
        "public int fragmentLength()",
        "public int fragmentAt(int) throws IndexOutOfBoundsException",
        "public int openLetters()",
        "public int winningLetters()",
        "public boolean canWin()",
        "public int end()",
        "public int bestLetter()",
        "public int waysToPlay()",
        "public int waysToWin()",
    };

    public static void main(String[] args) {
        Probe.promise("the public face");
        List<String> want = new ArrayList<>(List.of(FACE));
        Collections.sort(want);
        Probe.due("members", String.join("\n", members()), String.join("\n", want));
        Probe.due("the class", Modifier.toString(GhostGame.class.getModifiers()), "public final");
        Probe.finish("FaceTest");
    }

    private static List<String> members() {
        List<String> members = new ArrayList<>();
        for (Field field : GhostGame.class.getDeclaredFields()) {
            addUnlessPrivate(members, field.getModifiers(), field.toGenericString());
        }
        for (Constructor<?> made : GhostGame.class.getDeclaredConstructors()) {
            addUnlessPrivate(members, made.getModifiers(), made.toGenericString());
        }
        for (Method method : GhostGame.class.getDeclaredMethods()) {
            addUnlessPrivate(members, method.getModifiers(), method.toGenericString());
        }
        Collections.sort(members);
        return members;
    }

    private static void addUnlessPrivate(List<String> members, int modifiers, String text) {
        if (!Modifier.isPrivate(modifiers)) {
            members.add(text.replace("GhostGame.", "").replace("java.lang.", "")
                    .replace(",I", ", I"));
        }
    }
}
