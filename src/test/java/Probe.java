import java.util.ArrayList;
import java.util.List;

/** What the tests share: calls told by texts ("cab" for 2, 0, 1), and the count of wrong answers. */
final class Probe {
    static final String ARGUMENT = "IllegalArgumentException";
    static final String STATE = "IllegalStateException";
    static final String INDEX = "IndexOutOfBoundsException";

    private static int wrong = 0;
    private static String promise = "";

    private Probe() {
    }

    interface Call {
        void run();
    }

    interface CallWith {
        void run(int argument);
    }

    static void promise(String name) {
        promise = name;
    }

    static void due(String what, Object got, Object want) {
        if (!got.equals(want)) {
            wrong++;
            System.out.println(promise + ": " + what + ": answered " + got + ", due is " + want);
        }
    }

    /** The call throws just this, and changes nothing that the face tells. */
    static void throwsIt(String what, GhostGame g, String want, Call call) {
        String before = state(g);
        due(what + " throws", thrownBy(call), want);
        due(what + " changes nothing", state(g), before);
    }

    /** The call throws just this with each of the arguments, and changes nothing. */
    static void throwsWith(GhostGame g, String want, CallWith call, int... arguments) {
        String before = state(g);
        for (int argument : arguments) {
            due(argument + " throws", thrownBy(() -> call.run(argument)), want);
        }
        due("what throws changes nothing", state(g), before);
    }

    static String thrownBy(Call call) {
        try {
            call.run();
        } catch (RuntimeException e) {
            return e.getClass().getSimpleName();
        }
        return "nothing";
    }

    static void finish(String name) {
        System.out.println(name + ": " + (wrong == 0 ? "all as due" : wrong + " not as due"));
        if (wrong != 0) {
            System.exit(1);
        }
    }

    // ---- what the face tells

    static String state(GhostGame g) {
        int leastLength = g.setLeastLength(2);
        g.setLeastLength(leastLength);
        return slip(g) + " least " + leastLength + " words " + g.words() + " " + g.beginnings()
                + " " + g.isWord() + " " + g.wordsFromSlip() + " " + game(g) + " " + solver(g);
    }

    static String game(GhostGame g) {
        List<Integer> strikes = new ArrayList<>();
        int players = g.players();
        for (int player = 0; player < players; player++) {
            strikes.add(g.strikes(player));
        }
        return "turn " + g.turn() + " winner " + g.winner() + " strikes " + strikes
                + " fragment " + fragment(g);
    }

    static String solver(GhostGame g) {
        return "open " + lettersIn(g.openLetters()) + " winning " + lettersIn(g.winningLetters())
                + " canWin " + g.canWin() + " end " + g.end() + " best " + g.bestLetter()
                + " ways " + g.waysToPlay() + " won " + g.waysToWin();
    }

    static String slip(GhostGame g) {
        StringBuilder text = new StringBuilder();
        int length = g.slipLength();
        for (int i = 0; i < length; i++) {
            text.append((char) ('a' + g.slipAt(i)));
        }
        return text.toString();
    }

    static String fragment(GhostGame g) {
        StringBuilder text = new StringBuilder();
        int length = g.fragmentLength();
        for (int i = 0; i < length; i++) {
            text.append((char) ('a' + g.fragmentAt(i)));
        }
        return text.toString();
    }

    /** The words in their order, told by copyWord: the slip holds the last one then. */
    static String wordList(GhostGame g) {
        List<String> words = new ArrayList<>();
        int count = g.words();
        for (int i = 0; i < count; i++) {
            g.copyWord(i);
            words.add(slip(g));
        }
        return String.join(" ", words);
    }

    /** The letters of a mask, so that a bit beyond the letters is seen, too. */
    static String lettersIn(int mask) {
        StringBuilder text = new StringBuilder("{");
        for (int bit = 0; bit < 32; bit++) {
            if ((mask >>> bit & 1) != 0) {
                text.append((char) ('a' + bit));
            }
        }
        return text.append('}').toString();
    }

    // ---- runs of calls

    static void spell(GhostGame g, String letters) {
        g.wipe();
        for (int i = 0; i < letters.length(); i++) {
            g.write(letters.charAt(i) - 'a');
        }
    }

    static void add(GhostGame g, String words) {
        for (String word : words.split(" ")) {
            spell(g, word);
            g.addWord();
        }
    }

    /** So many words of two letters: az, ay and on to aq, then bz, and on to eq, the fiftieth. */
    static void addPairs(GhostGame g, int times) {
        for (int i = 0; i < times; i++) {
            g.wipe();
            g.write(i / 10);
            g.write(25 - i % 10);
            g.addWord();
        }
    }

    static void remove(GhostGame g, String words) {
        for (String word : words.split(" ")) {
            spell(g, word);
            g.removeWord();
        }
    }

    static GhostGame gameWith(String words) {
        GhostGame g = new GhostGame();
        add(g, words);
        return g;
    }

    /** Plays the letters, and answers what the last one answers. */
    static int letters(GhostGame g, String letters) {
        int answer = GhostGame.NONE;
        for (int i = 0; i < letters.length(); i++) {
            answer = g.play(letters.charAt(i) - 'a');
        }
        return answer;
    }

    /** Begins a game anew and plays the letters. */
    static void startWith(GhostGame g, String letters) {
        g.start(2);
        letters(g, letters);
    }

    /** So many rounds in which the letters are played, then challenged, and this player loses. */
    static void rounds(GhostGame g, int times, String letters, int loser) {
        for (int i = 0; i < times; i++) {
            letters(g, letters);
            due("the challenge of " + letters, g.challenge(), loser);
        }
    }

    /** A game of two that the player 1 has won. No word may begin with z. */
    static void playUntilOver(GhostGame g) {
        g.start(2);
        rounds(g, 5, "z", 0);
    }
}
