/**
 * The game of Ghost for two to four players, with its dictionary and a solver.
 *
 * <p>The classes inside answer every question, with NONE or an empty row where there is no answer;
 * only the face throws.
 */
public final class GhostGame {
    public static final int NONE = -1;

    private static final int LETTERS = 26;
    private static final int MOST_LETTERS = 10;
    private static final int LEAST_WORD = 2;
    private static final int MOST_WORDS = 50;
    private static final int FIRST_LEAST_LENGTH = 3;
    private static final int LEAST_PLAYERS = 2;
    private static final int MOST_PLAYERS = 4;
    private static final int STRIKES_TO_BE_OUT = 5;

    private final Dictionary dictionary;
    private final Game game;
    private long slip;

    public GhostGame() {
        dictionary = new Dictionary();
        game = new Game();
        slip = Row.EMPTY;
    }

    // ---- the slip and the dictionary

    public int write(int letter) throws IllegalArgumentException, IllegalStateException {
        if (!isLetter(letter)) {
            throw new IllegalArgumentException("a letter is a number from 0 to 25");
        }
        if (Row.isFull(slip)) {
            throw new IllegalStateException("the slip has 10 letters");
        }
        slip = Row.with(slip, letter);
        return Row.lengthOf(slip);
    }

    public int wipe() {
        int before = Row.lengthOf(slip);
        slip = Row.EMPTY;
        return before;
    }

    public int slipLength() {
        return Row.lengthOf(slip);
    }

    public int slipAt(int place) throws IndexOutOfBoundsException {
        int letter = Row.letterAt(slip, place);
        if (letter == NONE) {
            throw new IndexOutOfBoundsException("the slip has no such letter");
        }
        return letter;
    }

    public int addWord() throws IllegalArgumentException, IllegalStateException {
        if (Row.lengthOf(slip) < LEAST_WORD) {
            throw new IllegalArgumentException("a word has at least 2 letters");
        }
        if (!dictionary.add(slip)) {
            throw new IllegalStateException("there are 50 words, or this one is there");
        }
        return dictionary.size();
    }

    public int removeWord() throws IllegalStateException {
        if (!dictionary.remove(slip)) {
            throw new IllegalStateException("the dictionary does not have this word");
        }
        return dictionary.size();
    }

    public boolean isWord() {
        return dictionary.has(slip);
    }

    public int words() {
        return dictionary.size();
    }

    public int wordsFromSlip() {
        return dictionary.countFrom(slip);
    }

    public int beginnings() {
        return dictionary.countBeginnings();
    }

    public int copyWord(int number) throws IndexOutOfBoundsException {
        long word = dictionary.wordAt(number);
        if (word == Row.EMPTY) {
            throw new IndexOutOfBoundsException("there is no such word");
        }
        slip = word;
        return Row.lengthOf(slip);
    }

    public int setLeastLength(int letters) throws IllegalArgumentException {
        if (letters < LEAST_WORD || letters > MOST_LETTERS) {
            throw new IllegalArgumentException("the least length is from 2 to 10");
        }
        return dictionary.changeLeastLength(letters);
    }

    // ---- the game

    public void start(int players) throws IllegalArgumentException {
        if (players < LEAST_PLAYERS || players > MOST_PLAYERS) {
            throw new IllegalArgumentException("a game has 2 to 4 players");
        }
        game.begin(players);
    }

    public int play(int letter) throws IllegalArgumentException, IllegalStateException {
        if (!isLetter(letter)) {
            throw new IllegalArgumentException("a letter is a number from 0 to 25");
        }
        if (!game.isOn() || Row.isFull(game.fragment())) {
            throw new IllegalStateException("no letter can be played");
        }
        return game.addLetter(letter, dictionary);
    }

    public int challenge() throws IllegalStateException {
        if (!game.isOn() || game.fragment() == Row.EMPTY) {
            throw new IllegalStateException("there is nothing to challenge");
        }
        return game.settleChallenge(dictionary);
    }

    public int turn() {
        return game.mover();
    }

    public int winner() {
        return game.champion();
    }

    public int players() {
        return game.playerCount();
    }

    public int strikes(int player) throws IndexOutOfBoundsException {
        int count = game.strikesOf(player);
        if (count == NONE) {
            throw new IndexOutOfBoundsException("there is no such player");
        }
        return count;
    }

    public int fragmentLength() {
        return Row.lengthOf(game.fragment());
    }

    public int fragmentAt(int place) throws IndexOutOfBoundsException {
        int letter = Row.letterAt(game.fragment(), place);
        if (letter == NONE) {
            throw new IndexOutOfBoundsException("the fragment has no such letter");
        }
        return letter;
    }

    // ---- the solver

    public int openLetters() {
        return Solver.lettersOpenBehind(dictionary, game.fragment());
    }

    public int winningLetters() {
        return Solver.lettersWinningBehind(dictionary, game.fragment());
    }

    public boolean canWin() {
        return Solver.moverWins(dictionary, game.fragment());
    }

    public int end() {
        return Solver.endBehind(dictionary, game.fragment());
    }

    public int bestLetter() {
        return Solver.letterChosenBehind(dictionary, game.fragment());
    }

    public int waysToPlay() {
        return Solver.countWays(dictionary, game.fragment());
    }

    public int waysToWin() {
        return Solver.countWonWays(dictionary, game.fragment());
    }

    private static boolean isLetter(int letter) {
        return letter >= 0 && letter < LETTERS;
    }

    /**
     * Rows of up to 10 letters, each packed into a long, so that no call makes an object: the
     * length stands in the highest bits, the last letter in the lowest. Rows compared as numbers
     * are thereby in the order of words: first by length, then by the alphabet.
     */
    private static final class Row {
        static final long EMPTY = 0L;

        private static final int LETTER_BITS = 5;
        private static final int LETTER_MASK = 31;
        private static final int LENGTH_SHIFT = LETTER_BITS * MOST_LETTERS;
        private static final long LETTERS_MASK = (1L << LENGTH_SHIFT) - 1;

        static int lengthOf(long row) {
            return (int) (row >>> LENGTH_SHIFT);
        }

        static boolean isFull(long row) {
            return lengthOf(row) >= MOST_LETTERS;
        }

        static int letterAt(long row, int place) {
            int length = lengthOf(row);
            if (place < 0 || place >= length) {
                return NONE;
            }
            return (int) (row >>> (LETTER_BITS * (length - 1 - place))) & LETTER_MASK;
        }

        static long with(long row, int letter) {
            return pack(lengthOf(row) + 1, ((row & LETTERS_MASK) << LETTER_BITS) | letter);
        }

        static long beginning(long row, int length) {
            int dropped = lengthOf(row) - length;
            return pack(length, (row & LETTERS_MASK) >>> (LETTER_BITS * dropped));
        }

        static boolean beginsWith(long row, long start) {
            int behind = lengthOf(row) - lengthOf(start);
            return behind >= 0
                    && (row & LETTERS_MASK) >>> (LETTER_BITS * behind) == (start & LETTERS_MASK);
        }

        static int lengthShared(long one, long other) {
            int length = Math.min(lengthOf(one), lengthOf(other));
            while (length > 0 && beginning(one, length) != beginning(other, length)) {
                length--;
            }
            return length;
        }

        private static long pack(int length, long letters) {
            return ((long) length << LENGTH_SHIFT) | letters;
        }
    }

    /** The words, kept in their order, and the least length of those that count. */
    private static final class Dictionary {
        private final long[] words;
        private int count;
        private int leastLength;

        Dictionary() {
            words = new long[MOST_WORDS];
            count = 0;
            leastLength = FIRST_LEAST_LENGTH;
        }

        int size() {
            return count;
        }

        boolean has(long row) {
            return placeOf(row) != NONE;
        }

        long wordAt(int place) {
            return place >= 0 && place < count ? words[place] : Row.EMPTY;
        }

        boolean add(long word) {
            if (count >= words.length || has(word)) {
                return false;
            }
            int place = count;
            while (place > 0 && words[place - 1] > word) {
                words[place] = words[place - 1];
                place--;
            }
            words[place] = word;
            count++;
            return true;
        }

        boolean remove(long word) {
            int place = placeOf(word);
            if (place == NONE) {
                return false;
            }
            count--;
            for (int i = place; i < count; i++) {
                words[i] = words[i + 1];
            }
            return true;
        }

        int countFrom(long start) {
            int found = 0;
            for (int i = 0; i < count; i++) {
                if (Row.beginsWith(words[i], start)) {
                    found++;
                }
            }
            return found;
        }

        int countBeginnings() {
            int found = 1; // the empty one, there without words too
            for (int i = 0; i < count; i++) {
                found += Row.lengthOf(words[i]) - lengthSharedBefore(i);
            }
            return found;
        }

        int changeLeastLength(int letters) {
            int before = leastLength;
            leastLength = letters;
            return before;
        }

        boolean isLongEnough(long row) {
            return Row.lengthOf(row) >= leastLength;
        }

        boolean hasCounting(long row) {
            return isLongEnough(row) && has(row);
        }

        boolean hasCountingFrom(long start) {
            for (int i = 0; i < count; i++) {
                if (isLongEnough(words[i]) && Row.beginsWith(words[i], start)) {
                    return true;
                }
            }
            return false;
        }

        private int placeOf(long row) {
            for (int i = 0; i < count; i++) {
                if (words[i] == row) {
                    return i;
                }
            }
            return NONE;
        }

        private int lengthSharedBefore(int place) {
            int most = 0;
            for (int i = 0; i < place; i++) {
                most = Math.max(most, Row.lengthShared(words[i], words[place]));
            }
            return most;
        }
    }

    /** The players, their strikes, and the round that is played. */
    private static final class Game {
        private final int[] strikes;
        private int playerCount;
        private int mover;
        private int lastMover;
        private int champion;
        private long fragment;

        Game() {
            strikes = new int[MOST_PLAYERS];
            playerCount = 0;
            mover = NONE;
            lastMover = NONE;
            champion = NONE;
            fragment = Row.EMPTY;
        }

        void begin(int players) {
            for (int i = 0; i < strikes.length; i++) {
                strikes[i] = 0;
            }
            playerCount = players;
            mover = 0;
            lastMover = NONE;
            champion = NONE;
            fragment = Row.EMPTY;
        }

        boolean isOn() {
            return mover != NONE;
        }

        int mover() {
            return mover;
        }

        int champion() {
            return champion;
        }

        int playerCount() {
            return playerCount;
        }

        long fragment() {
            return fragment;
        }

        int strikesOf(int player) {
            return hasPlayer(player) ? strikes[player] : NONE;
        }

        int addLetter(int letter, Dictionary dictionary) {
            fragment = Row.with(fragment, letter);
            if (dictionary.hasCounting(fragment)) {
                return endRound(mover);
            }
            lastMover = mover;
            mover = nextBehind(mover);
            return NONE;
        }

        int settleChallenge(Dictionary dictionary) {
            return endRound(dictionary.hasCountingFrom(fragment) ? mover : lastMover);
        }

        private int endRound(int loser) {
            if (hasPlayer(loser)) {
                strikes[loser]++;
            }
            fragment = Row.EMPTY;
            if (playersLeft() == 1) {
                champion = nextBehind(loser);
                mover = NONE;
            } else {
                mover = isOut(loser) ? nextBehind(loser) : loser;
            }
            return loser;
        }

        private boolean hasPlayer(int player) {
            return player >= 0 && player < playerCount && player < strikes.length;
        }

        private boolean isOut(int player) {
            return strikesOf(player) >= STRIKES_TO_BE_OUT;
        }

        private int playersLeft() {
            int left = 0;
            for (int player = 0; player < playerCount; player++) {
                if (!isOut(player)) {
                    left++;
                }
            }
            return left;
        }

        private int nextBehind(int player) {
            int next = player;
            for (int step = 0; step < playerCount; step++) {
                next = next + 1 < playerCount ? next + 1 : 0;
                if (!isOut(next)) {
                    return next;
                }
            }
            return NONE;
        }
    }

    /**
     * Who can force the other side to complete a word, and how soon.
     *
     * <p>An outcome is held as one number, its score for the mover: SURE less the end if the mover
     * can win, the end less SURE if it cannot. So the mover always wants the highest score: to win
     * soon, or to lose late.
     */
    private static final class Solver {
        private static final int SURE = 100; // far above every end, so that scores keep their sign

        static int lettersOpenBehind(Dictionary dictionary, long fragment) {
            int open = 0;
            for (int i = 0; i < dictionary.size(); i++) {
                long word = dictionary.wordAt(i);
                if (leadsOn(dictionary, word, fragment)) {
                    open |= 1 << Row.letterAt(word, Row.lengthOf(fragment));
                }
            }
            return open;
        }

        static int lettersWinningBehind(Dictionary dictionary, long fragment) {
            int open = lettersOpenBehind(dictionary, fragment);
            int winning = 0;
            for (int letter = 0; letter < LETTERS; letter++) {
                if (isIn(open, letter) && scoreOfLetter(dictionary, fragment, letter) > 0) {
                    winning |= 1 << letter;
                }
            }
            return winning;
        }

        static boolean moverWins(Dictionary dictionary, long fragment) {
            return score(dictionary, fragment) > 0;
        }

        static int endBehind(Dictionary dictionary, long fragment) {
            return SURE - Math.abs(score(dictionary, fragment));
        }

        static int letterChosenBehind(Dictionary dictionary, long fragment) {
            int open = lettersOpenBehind(dictionary, fragment);
            int best = score(dictionary, fragment);
            for (int letter = 0; letter < LETTERS; letter++) {
                if (isIn(open, letter) && scoreOfLetter(dictionary, fragment, letter) == best) {
                    return letter;
                }
            }
            return NONE;
        }

        static int countWays(Dictionary dictionary, long fragment) {
            int ways = 0;
            for (int i = 0; i < dictionary.size(); i++) {
                if (isWay(dictionary, dictionary.wordAt(i), fragment)) {
                    ways++;
                }
            }
            return ways;
        }

        static int countWonWays(Dictionary dictionary, long fragment) {
            int ways = 0;
            for (int i = 0; i < dictionary.size(); i++) {
                long word = dictionary.wordAt(i);
                if (isWay(dictionary, word, fragment) && otherSideCompletes(word, fragment)) {
                    ways++;
                }
            }
            return ways;
        }

        // No word is longer than a full row, which ends the recursion at the latest.
        private static int score(Dictionary dictionary, long fragment) {
            int open = Row.isFull(fragment) ? 0 : lettersOpenBehind(dictionary, fragment);
            if (open == 0) {
                return SURE;
            }
            int best = -SURE;
            for (int letter = 0; letter < LETTERS; letter++) {
                if (isIn(open, letter)) {
                    best = Math.max(best, scoreOfLetter(dictionary, fragment, letter));
                }
            }
            return best;
        }

        // A completed word is worth to the other side what it has where no letter is open: it wins
        // at once. The letter that led there makes each end one greater.
        private static int scoreOfLetter(Dictionary dictionary, long fragment, int letter) {
            long longer = Row.with(fragment, letter);
            int others = dictionary.hasCounting(longer) ? SURE : score(dictionary, longer);
            return others > 0 ? 1 - others : -1 - others;
        }

        private static boolean leadsOn(Dictionary dictionary, long word, long fragment) {
            return dictionary.isLongEnough(word) && word != fragment
                    && Row.beginsWith(word, fragment);
        }

        private static boolean isWay(Dictionary dictionary, long word, long fragment) {
            if (!leadsOn(dictionary, word, fragment)) {
                return false;
            }
            for (int length = Row.lengthOf(fragment) + 1; length < Row.lengthOf(word); length++) {
                if (dictionary.hasCounting(Row.beginning(word, length))) {
                    return false;
                }
            }
            return true;
        }

        private static boolean otherSideCompletes(long word, long fragment) {
            return (Row.lengthOf(word) - Row.lengthOf(fragment)) % 2 == 0;
        }

        private static boolean isIn(int letters, int letter) {
            return ((letters >> letter) & 1) != 0;
        }
    }
}
