import java.util.ArrayList;
import java.util.HashSet;
import java.util.List;
import java.util.Set;

/**
 * The document once more, written with texts and lists and word for word, so that it shares
 * nothing with the program but the document. A letter k is the character 'a' + k.
 */
final class Model {
    private final List<String> words = new ArrayList<>();
    private String slip = "";
    private int leastLength = 3;

    private int players = 0;
    private final List<Integer> strikes = new ArrayList<>();
    private boolean over = false;
    private int turn = -1;
    private int last = -1;
    private String fragment = "";

    // ---- the slip and the dictionary

    int write(int letter) {
        if (letter < 0 || letter > 25) {
            throw new IllegalArgumentException();
        }
        if (slip.length() == 10) {
            throw new IllegalStateException();
        }
        slip += (char) ('a' + letter);
        return slip.length();
    }

    int wipe() {
        int before = slip.length();
        slip = "";
        return before;
    }

    int slipLength() {
        return slip.length();
    }

    int slipAt(int place) {
        return letterOf(slip, place);
    }

    int addWord() {
        if (slip.length() < 2) {
            throw new IllegalArgumentException();
        }
        if (words.size() == 50 || words.contains(slip)) {
            throw new IllegalStateException();
        }
        words.add(slip);
        return words.size();
    }

    int removeWord() {
        if (!words.remove(slip)) {
            throw new IllegalStateException();
        }
        return words.size();
    }

    boolean isWord() {
        return words.contains(slip);
    }

    int words() {
        return words.size();
    }

    int wordsFromSlip() {
        int count = 0;
        for (String word : words) {
            count += word.startsWith(slip) ? 1 : 0;
        }
        return count;
    }

    int beginnings() {
        Set<String> all = new HashSet<>();
        all.add("");
        for (String word : words) {
            for (int length = 1; length <= word.length(); length++) {
                all.add(word.substring(0, length));
            }
        }
        return all.size();
    }

    int copyWord(int number) {
        if (number < 0 || number >= words.size()) {
            throw new IndexOutOfBoundsException();
        }
        List<String> ordered = new ArrayList<>(words);
        ordered.sort((a, b) -> a.length() != b.length() ? a.length() - b.length() : a.compareTo(b));
        slip = ordered.get(number);
        return slip.length();
    }

    int setLeastLength(int letters) {
        if (letters < 2 || letters > 10) {
            throw new IllegalArgumentException();
        }
        int before = leastLength;
        leastLength = letters;
        return before;
    }

    // ---- the game

    int start(int count) {
        if (count < 2 || count > 4) {
            throw new IllegalArgumentException();
        }
        players = count;
        strikes.clear();
        for (int i = 0; i < count; i++) {
            strikes.add(0);
        }
        over = false;
        turn = 0;
        fragment = "";
        return 0;
    }

    int play(int letter) {
        if (letter < 0 || letter > 25) {
            throw new IllegalArgumentException();
        }
        if (players == 0 || over || fragment.length() == 10) {
            throw new IllegalStateException();
        }
        fragment += (char) ('a' + letter);
        if (counting().contains(fragment)) {
            return lose(turn);
        }
        last = turn;
        turn = next(turn);
        return -1;
    }

    int challenge() {
        if (players == 0 || over || fragment.isEmpty()) {
            throw new IllegalStateException();
        }
        for (String word : counting()) {
            if (word.startsWith(fragment)) {
                return lose(turn);
            }
        }
        return lose(last);
    }

    int turn() {
        return players == 0 || over ? -1 : turn;
    }

    int winner() {
        return over ? playersLeft().get(0) : -1;
    }

    int players() {
        return players;
    }

    int strikes(int player) {
        if (player < 0 || player >= players) {
            throw new IndexOutOfBoundsException();
        }
        return strikes.get(player);
    }

    int fragmentLength() {
        return fragment.length();
    }

    int fragmentAt(int place) {
        return letterOf(fragment, place);
    }

    private int lose(int player) {
        strikes.set(player, strikes.get(player) + 1);
        fragment = "";
        over = playersLeft().size() == 1;
        turn = playersLeft().contains(player) ? player : next(player);
        return player;
    }

    private List<Integer> playersLeft() {
        List<Integer> left = new ArrayList<>();
        for (int player = 0; player < players; player++) {
            if (strikes.get(player) < 5) {
                left.add(player);
            }
        }
        return left;
    }

    private int next(int player) {
        for (int other : playersLeft()) {
            if (other > player) {
                return other;
            }
        }
        return playersLeft().get(0);
    }

    // ---- the solver

    int openLetters() {
        return mask(open(fragment));
    }

    int winningLetters() {
        return mask(winning(fragment));
    }

    boolean canWin() {
        return canWin(fragment);
    }

    int end() {
        return end(fragment);
    }

    int bestLetter() {
        for (char letter : canWin(fragment) ? winning(fragment) : open(fragment)) {
            if (endBy(fragment + letter) == end(fragment)) {
                return letter - 'a';
            }
        }
        return -1;
    }

    int waysToPlay() {
        return ways().size();
    }

    int waysToWin() {
        int won = 0;
        for (String word : ways()) {
            boolean moverPlays = true;
            for (int length = fragment.length() + 1; length < word.length(); length++) {
                moverPlays = !moverPlays;
            }
            won += moverPlays ? 0 : 1;
        }
        return won;
    }

    private List<String> ways() {
        List<String> ways = new ArrayList<>();
        for (String word : counting()) {
            boolean way = word.startsWith(fragment) && word.length() > fragment.length();
            for (String shorter : counting()) {
                way = way && !(word.startsWith(shorter) && shorter.length() < word.length()
                        && shorter.length() > fragment.length());
            }
            if (way) {
                ways.add(word);
            }
        }
        return ways;
    }

    private List<Character> open(String beginning) {
        List<Character> letters = new ArrayList<>();
        for (char letter = 'a'; letter <= 'z'; letter++) {
            for (String word : counting()) {
                if (word.startsWith(beginning + letter) && !letters.contains(letter)) {
                    letters.add(letter);
                }
            }
        }
        return letters;
    }

    private List<Character> winning(String beginning) {
        List<Character> letters = new ArrayList<>();
        for (char letter : open(beginning)) {
            if (!counting().contains(beginning + letter) && !canWin(beginning + letter)) {
                letters.add(letter);
            }
        }
        return letters;
    }

    private boolean canWin(String beginning) {
        return open(beginning).isEmpty() || !winning(beginning).isEmpty();
    }

    private int end(String beginning) {
        if (open(beginning).isEmpty()) {
            return 0;
        }
        boolean can = canWin(beginning);
        int end = can ? Integer.MAX_VALUE : Integer.MIN_VALUE;
        for (char letter : can ? winning(beginning) : open(beginning)) {
            int its = endBy(beginning + letter);
            end = can ? Math.min(end, its) : Math.max(end, its);
        }
        return end;
    }

    private int endBy(String longer) {
        return counting().contains(longer) ? 1 : 1 + end(longer);
    }

    private List<String> counting() {
        List<String> counting = new ArrayList<>();
        for (String word : words) {
            if (word.length() >= leastLength) {
                counting.add(word);
            }
        }
        return counting;
    }

    private static int letterOf(String row, int place) {
        if (place < 0 || place >= row.length()) {
            throw new IndexOutOfBoundsException();
        }
        return row.charAt(place) - 'a';
    }

    private static int mask(List<Character> letters) {
        int mask = 0;
        for (char letter : letters) {
            mask |= 1 << (letter - 'a');
        }
        return mask;
    }
}
