/** Promises 14 to 22: the game. */
final class GameSentences {
    private static final int LEAST = Integer.MIN_VALUE;
    private static final int GREATEST = Integer.MAX_VALUE;

    private GameSentences() {
    }

    @Section("Promise 14: start")
    static final class Start {
        @Sentence("Begins a game anew, whether there was one or not: it is the turn of the player 0, "
                + "without strikes.")
        static void anew() {
            GhostGame g = Probe.gameWith("abc");
            g.start(4);
            Probe.due("no game before", Probe.game(g),
                    "turn 0 winner -1 strikes [0, 0, 0, 0] fragment ");
            Probe.rounds(g, 1, "zzzz", 3);
            Probe.letters(g, "ab");
            g.start(4);
            Probe.due("in a round", Probe.game(g),
                    "turn 0 winner -1 strikes [0, 0, 0, 0] fragment ");
            Probe.due("the words stay", g.words(), 1);
            Probe.due("the slip stays", Probe.slip(g), "abc");
            Probe.playUntilOver(g);
            g.start(2);
            Probe.due("over before", Probe.game(g), "turn 0 winner -1 strikes [0, 0] fragment ");
            Probe.due("it can be played", g.play(25), GhostGame.NONE);
            Probe.due("and challenged", g.challenge(), 0);
        }

        @Sentence("`players`: 2 to 4")
        static void twoToFour() {
            GhostGame g = new GhostGame();
            for (int players = 2; players <= 4; players++) {
                g.start(players);
                Probe.due("players", g.players(), players);
                Probe.letters(g, "zzzz".substring(0, players));
                Probe.due("behind the last comes the first", g.turn(), 0);
                Probe.due("the last played", g.challenge(), players - 1);
            }
            g.start(2);
            Probe.due("less than before", Probe.game(g),
                    "turn 0 winner -1 strikes [0, 0] fragment ");
        }

        @Sentence("Throws `IllegalArgumentException` if players is out of range")
        static void tooFewOrTooMany() {
            GhostGame g = Probe.gameWith("abc");
            Probe.throwsWith(g, Probe.ARGUMENT, g::start, 1, 5, 0, -1, LEAST, GREATEST);
            g.start(3);
            Probe.rounds(g, 1, "zz", 1);
            Probe.letters(g, "ab");
            Probe.throwsWith(g, Probe.ARGUMENT, g::start, 1, 5);
            Probe.due("the round goes on", Probe.letters(g, "c"), 0);
            Probe.playUntilOver(g);
            Probe.throwsWith(g, Probe.ARGUMENT, g::start, 1, 5);
        }
    }

    @Section("Promise 15: play")
    static final class Play {
        @Sentence("Plays a letter.")
        static void behindTheOthers() {
            GhostGame g = Probe.gameWith("abc");
            g.start(2);
            g.play(25);
            Probe.due("the first", Probe.game(g), "turn 1 winner -1 strikes [0, 0] fragment z");
            g.play(0);
            Probe.due("the second", Probe.game(g), "turn 0 winner -1 strikes [0, 0] fragment za");
            Probe.letters(g, "bcdefghi");
            Probe.due("the tenth", Probe.game(g),
                    "turn 0 winner -1 strikes [0, 0] fragment zabcdefghi");
            g.start(2);
            Probe.letters(g, "abc");
            Probe.due("one that completes a word", Probe.game(g),
                    "turn 0 winner -1 strikes [1, 0] fragment ");
            Probe.due("the slip stays", Probe.slip(g), "abc");
        }

        @Sentence("`letter`: 0 to 25")
        static void leastAndGreatestLetter() {
            GhostGame g = new GhostGame();
            g.start(2);
            Probe.due("0", g.play(0), GhostGame.NONE);
            Probe.due("25", g.play(25), GhostGame.NONE);
            Probe.due("fragment", Probe.fragment(g), "az");
        }

        @Sentence("Returns the player who loses the round by it; NONE if the round goes on.")
        static void theLoserOrNone() {
            GhostGame g = Probe.gameWith("ab abc bcde zzzzzzzzzz");
            g.start(3);
            Probe.due("the first letter", g.play(0), GhostGame.NONE);
            Probe.due("a word that does not count", g.play(1), GhostGame.NONE);
            Probe.due("the player 2 completes", g.play(2), 2);
            Probe.due("the player 2 completes again", Probe.letters(g, "bcde"), 2);
            Probe.due("nine letters", Probe.letters(g, "zzzzzzzzz"), GhostGame.NONE);
            Probe.due("a word of ten letters", g.play(25), 2);
            Probe.due("ten letters that are no word", Probe.letters(g, "zabcbcdezz"),
                    GhostGame.NONE);
            GhostGame full = new GhostGame();
            Probe.addPairs(full, 50);
            full.setLeastLength(2);
            full.start(2);
            Probe.due("the first of 50 words", Probe.letters(full, "aq"), 1);
            Probe.due("the last of 50 words", Probe.letters(full, "ez"), 0);
            Probe.due("none of 50 words", Probe.letters(full, "za"), GhostGame.NONE);
            GhostGame two = Probe.gameWith("abc");
            two.start(2);
            for (int i = 0; i < 5; i++) {
                Probe.due("up to the last strike", Probe.letters(two, "abc"), 0);
            }
            Probe.due("over", two.winner(), 1);
        }

        @Sentence("Throws `IllegalArgumentException` if letter is out of range")
        static void letterOutOfRange() {
            GhostGame g = new GhostGame();
            Probe.throwsWith(g, Probe.ARGUMENT, g::play, -1, 26, LEAST, GREATEST);
            g.start(2);
            Probe.throwsWith(g, Probe.ARGUMENT, g::play, -1, 26, 31, 32, LEAST, GREATEST);
            Probe.letters(g, "abcdefghij");
            Probe.throwsWith(g, Probe.ARGUMENT, g::play, -1, 26, LEAST, GREATEST);
            Probe.playUntilOver(g);
            Probe.throwsWith(g, Probe.ARGUMENT, g::play, -1, 26, LEAST, GREATEST);
        }

        @Sentence("Throws `IllegalStateException` if there is no game, or it is over, or the fragment "
                + "has 10 letters")
        static void noGameOverOrTenLetters() {
            GhostGame g = new GhostGame();
            Probe.throwsWith(g, Probe.STATE, g::play, 0, 25);
            g.start(2);
            Probe.letters(g, "zzzzzzzzz");
            Probe.due("the tenth letter", g.play(25), GhostGame.NONE);
            Probe.throwsWith(g, Probe.STATE, g::play, 0, 25);
            Probe.due("challenged", g.challenge(), 1);
            Probe.due("a new round", g.play(0), GhostGame.NONE);
            Probe.playUntilOver(g);
            Probe.throwsWith(g, Probe.STATE, g::play, 0, 25);
            g.start(2);
            Probe.due("a new game", g.play(0), GhostGame.NONE);
        }
    }

    @Section("Promise 16: challenge")
    static final class Challenge {
        @Sentence("Challenges the player who played last.")
        static void whoPlayedLast() {
            GhostGame g = Probe.gameWith("abc");
            g.start(3);
            Probe.letters(g, "ax");
            g.challenge();
            Probe.due("the player 1 played last", Probe.game(g),
                    "turn 1 winner -1 strikes [0, 1, 0] fragment ");
            Probe.letters(g, "xx");
            g.challenge();
            Probe.due("the player 2, before the player 0", Probe.game(g),
                    "turn 2 winner -1 strikes [0, 1, 1] fragment ");
            Probe.letters(g, "a");
            g.challenge();
            Probe.due("a word does begin so: the challenger", Probe.game(g),
                    "turn 0 winner -1 strikes [1, 1, 1] fragment ");
        }

        @Sentence("Returns the player who loses the round by it.")
        static void eitherOfThem() {
            GhostGame g = Probe.gameWith("ab abc");
            g.start(4);
            Probe.due("one letter of a word", challenged(g, "a"), 1);
            Probe.due("one letter less than a word", challenged(g, "ab"), 3);
            Probe.due("longer than a word that does not count", challenged(g, "abd"), 1);
            Probe.due("one letter of no word", challenged(g, "b"), 1);
            Probe.due("ten letters of no word", challenged(g, "abxabcabca"), 2);
            Probe.letters(g, "ab");
            Probe.remove(g, "abc");
            Probe.due("the word is removed", g.challenge(), 3);
            GhostGame full = new GhostGame();
            Probe.addPairs(full, 50);
            full.setLeastLength(2);
            full.start(2);
            Probe.due("none of 50 words", challenged(full, "z"), 0);
            Probe.due("the first of 50 words", challenged(full, "a"), 1);
            Probe.due("the last of 50 words", challenged(full, "e"), 0);
            GhostGame last = new GhostGame();
            last.start(2);
            Probe.rounds(last, 4, "z", 0);
            Probe.due("the last strike", challenged(last, "z"), 0);
        }

        private static int challenged(GhostGame g, String letters) {
            Probe.letters(g, letters);
            return g.challenge();
        }

        @Sentence("Throws `IllegalStateException` if there is no game, or it is over, or the fragment "
                + "is empty")
        static void noGameOverOrEmpty() {
            GhostGame g = Probe.gameWith("abc");
            Probe.throwsIt("no game", g, Probe.STATE, g::challenge);
            g.start(3);
            Probe.throwsIt("a new game", g, Probe.STATE, g::challenge);
            Probe.letters(g, "z");
            Probe.due("one letter", g.challenge(), 0);
            Probe.throwsIt("a new round behind a challenge", g, Probe.STATE, g::challenge);
            Probe.letters(g, "abc");
            Probe.throwsIt("a new round behind a word", g, Probe.STATE, g::challenge);
            Probe.playUntilOver(g);
            Probe.throwsIt("over", g, Probe.STATE, g::challenge);
            g.start(2);
            Probe.throwsIt("begun anew", g, Probe.STATE, g::challenge);
        }
    }

    @Section("Promise 17: turn")
    static final class Turn {
        @Sentence("Returns whose turn it is; NONE if there is no game, or it is over.")
        static void aPlayerOrNone() {
            GhostGame g = new GhostGame();
            Probe.due("no game", g.turn(), GhostGame.NONE);
            g.start(4);
            Probe.due("at first", g.turn(), 0);
            for (int i = 1; i <= 10; i++) {
                g.play(25);
                Probe.due("after " + i, g.turn(), i % 4);
            }
            g.challenge();
            Probe.due("the loser begins", g.turn(), 1);
            Probe.playUntilOver(g);
            Probe.due("over", g.turn(), GhostGame.NONE);
            g.start(2);
            Probe.due("anew", g.turn(), 0);
        }
    }

    @Section("Promise 18: winner")
    static final class Winner {
        @Sentence("Returns the winner; NONE if there is no game, or it is not over.")
        static void theOneLeftOrNone() {
            GhostGame g = new GhostGame();
            Probe.due("no game", g.winner(), GhostGame.NONE);
            g.start(2);
            Probe.due("at first", g.winner(), GhostGame.NONE);
            Probe.rounds(g, 4, "z", 0);
            Probe.letters(g, "z");
            Probe.due("four strikes", g.winner(), GhostGame.NONE);
            g.challenge();
            Probe.due("five strikes", g.winner(), 1);
            g.start(3);
            Probe.due("anew", g.winner(), GhostGame.NONE);
            Probe.rounds(g, 1, "zzz", 2);
            Probe.rounds(g, 4, "z", 2);
            Probe.due("two are left", g.winner(), GhostGame.NONE);
            Probe.rounds(g, 1, "zz", 1);
            Probe.rounds(g, 4, "z", 1);
            Probe.due("the player 0 is left", g.winner(), 0);
        }
    }

    @Section("Promise 19: players")
    static final class Players {
        @Sentence("Returns how many players the game has; 0 if there is no game.")
        static void noneOrTwoToFour() {
            GhostGame g = new GhostGame();
            Probe.due("no game", g.players(), 0);
            for (int players = 2; players <= 4; players++) {
                g.start(players);
                Probe.due("begun", g.players(), players);
            }
            Probe.rounds(g, 5, "z", 0);
            Probe.due("one is out", g.players(), 4);
            Probe.playUntilOver(g);
            Probe.due("over", g.players(), 2);
        }
    }

    @Section("Promise 20: strikes")
    static final class Strikes {
        @Sentence("Returns the strikes of a player.")
        static void eachPlayersOwn() {
            GhostGame g = Probe.gameWith("abc");
            g.start(4);
            Probe.rounds(g, 1, "zzzz", 3);
            Probe.rounds(g, 1, "zz", 0);
            Probe.due("the player 2 completes", Probe.letters(g, "abc"), 2);
            Probe.rounds(g, 1, "a", 3);
            int[] strikes = {1, 0, 1, 2};
            for (int player = 0; player < 4; player++) {
                Probe.due("player " + player, g.strikes(player), strikes[player]);
            }
        }

        @Sentence("`player`: a player")
        static void theFirstAndTheLast() {
            GhostGame g = new GhostGame();
            for (int players = 2; players <= 4; players++) {
                g.start(players);
                Probe.rounds(g, 1, "zzzz".substring(0, players), players - 1);
                Probe.due("the first of " + players, g.strikes(0), 0);
                Probe.due("the last of " + players, g.strikes(players - 1), 1);
            }
        }

        @Sentence("Returns 0 to 5.")
        static void noneToFive() {
            GhostGame g = new GhostGame();
            g.start(3);
            for (int i = 0; i < 5; i++) {
                Probe.due("so far", g.strikes(0), i);
                Probe.rounds(g, 1, "z", 0);
            }
            Probe.due("out", g.strikes(0), 5);
            Probe.rounds(g, 5, "z", 1);
            Probe.due("out before, the game is over", g.strikes(0), 5);
            Probe.due("out by the last round", g.strikes(1), 5);
            Probe.due("the winner", g.strikes(2), 0);
            g.start(3);
            Probe.due("anew", g.strikes(0), 0);
        }

        @Sentence("Throws `IndexOutOfBoundsException` if there is no such player")
        static void noSuchPlayer() {
            GhostGame g = new GhostGame();
            Probe.throwsWith(g, Probe.INDEX, g::strikes, 0, -1, 1, LEAST, GREATEST);
            for (int players = 4; players >= 2; players--) {
                g.start(players);
                Probe.throwsWith(g, Probe.INDEX, g::strikes, -1, players, 5, LEAST, GREATEST);
            }
            Probe.playUntilOver(g);
            Probe.throwsWith(g, Probe.INDEX, g::strikes, -1, 2);
        }
    }

    @Section("Promise 21: fragmentLength")
    static final class FragmentLength {
        @Sentence("Returns how many letters the fragment has; 0 if there is no game, or it is over.")
        static void noneToTen() {
            GhostGame g = Probe.gameWith("abc");
            Probe.due("no game, though there is a slip", g.fragmentLength(), 0);
            g.start(2);
            Probe.due("at first", g.fragmentLength(), 0);
            for (int i = 1; i <= 10; i++) {
                g.play(25);
                Probe.due("after " + i, g.fragmentLength(), i);
            }
            g.challenge();
            Probe.due("a new round", g.fragmentLength(), 0);
            g.play(0);
            g.start(2);
            Probe.due("a new game", g.fragmentLength(), 0);
            Probe.playUntilOver(g);
            Probe.due("over by a challenge", g.fragmentLength(), 0);
            g.start(2);
            for (int i = 0; i < 5; i++) {
                Probe.letters(g, "abc");
                Probe.due("behind a word", g.fragmentLength(), 0);
            }
            Probe.due("over by a word", g.winner(), 1);
        }
    }

    @Section("Promise 22: fragmentAt")
    static final class FragmentAt {
        @Sentence("Returns a letter of the fragment.")
        static void eachOfTen() {
            GhostGame g = Probe.gameWith("abc");
            g.start(3);
            Probe.letters(g, "zazbcdefya");
            int[] letters = {25, 0, 25, 1, 2, 3, 4, 5, 24, 0};
            for (int place = 0; place < 10; place++) {
                Probe.due("place " + place, g.fragmentAt(place), letters[place]);
            }
        }

        @Sentence("`place`: from 0")
        static void theFirstAndTheLast() {
            GhostGame g = new GhostGame();
            g.start(2);
            g.play(5);
            Probe.due("the only one", g.fragmentAt(0), 5);
            g.play(0);
            Probe.due("the first", g.fragmentAt(0), 5);
            Probe.due("the last", g.fragmentAt(1), 0);
        }

        @Sentence("Throws `IndexOutOfBoundsException` if it has no such letter")
        static void noSuchLetter() {
            GhostGame g = Probe.gameWith("abc");
            Probe.throwsWith(g, Probe.INDEX, g::fragmentAt, 0, -1, LEAST, GREATEST);
            g.start(2);
            Probe.throwsWith(g, Probe.INDEX, g::fragmentAt, 0, -1);
            Probe.letters(g, "ab");
            Probe.throwsWith(g, Probe.INDEX, g::fragmentAt, -1, 2, LEAST, GREATEST);
            Probe.letters(g, "zzzzzzzz");
            Probe.throwsWith(g, Probe.INDEX, g::fragmentAt, -1, 10, LEAST, GREATEST);
            g.challenge();
            Probe.throwsWith(g, Probe.INDEX, g::fragmentAt, 0);
            Probe.playUntilOver(g);
            Probe.throwsWith(g, Probe.INDEX, g::fragmentAt, 0);
        }
    }
}
