/** What the document says ahead of its promises. */
final class TermsSentences {
    private static final int LEAST = Integer.MIN_VALUE;
    private static final int GREATEST = Integer.MAX_VALUE;

    private TermsSentences() {
    }

    @Section("What it is")
    static final class WhatItIs {
        @Sentence("The game of Ghost for two to four players, with its dictionary and a solver.")
        static void neitherOneNorFivePlayers() {
            GhostGame g = new GhostGame();
            Probe.throwsWith(g, Probe.ARGUMENT, g::start, 1, 5);
            for (int players = 2; players <= 4; players++) {
                g.start(players);
                Probe.rounds(g, 1, "zzzz".substring(0, players), players - 1);
            }
        }

        @Sentence("An object is used for at most 512 calls after it has been made; what later calls "
                + "answer is free.")
        static void upToTheLastCall() {
            GhostGame g = Probe.gameWith("abcd");
            int calls = 6;
            for (int game = 0; game < 15; game++) {
                g.start(4);
                for (int loser = 0; loser < 3; loser++) {
                    Probe.rounds(g, 5, "z", loser);
                }
                Probe.due("winner of the game " + game, g.winner(), 3);
                calls += 32;
            }
            for (calls++; calls <= 512; calls++) {
                Probe.due("call " + calls, g.end(), 4);
            }
        }
    }

    @Section("Terms")
    static final class SlipAndDictionary {
        @Sentence("Words can be added and removed at any time; the solver tells for two sides who "
                + "can force the other one to complete a word, how soon, and by which letters.")
        static void atAnyTime() {
            GhostGame g = new GhostGame();
            dueAddedAndRemoved("no game", g, "abcd", "end 4 best 0");
            g.start(2);
            dueAddedAndRemoved("a new game", g, "abcd", "end 4 best 0");
            Probe.letters(g, "ab");
            dueAddedAndRemoved("in a round", g, "abcd", "end 2 best 2");
            Probe.letters(g, "cdefghij");
            dueAddedAndRemoved("ten letters", g, "abcdefghij", "end 0 best -1");
            Probe.due("the fragment stays", Probe.fragment(g), "abcdefghij");
            Probe.playUntilOver(g);
            dueAddedAndRemoved("over", g, "abcd", "end 4 best 0");
        }

        private static void dueAddedAndRemoved(String when, GhostGame g, String word,
                String solved) {
            Probe.spell(g, word);
            Probe.due("added, " + when, g.addWord(), 1);
            Probe.due("the mover can win, " + when, g.canWin(), true);
            Probe.due("solved, " + when, "end " + g.end() + " best " + g.bestLetter(), solved);
            Probe.due("removed, " + when, g.removeWord(), 0);
            Probe.due("solved without it, " + when, g.end(), 0);
        }

        @Sentence("Letters are numbers from 0 to 25.")
        static void onTheSlipAndInTheGame() {
            GhostGame g = new GhostGame();
            g.start(2);
            Probe.throwsWith(g, Probe.ARGUMENT, g::write, -1, 26);
            Probe.throwsWith(g, Probe.ARGUMENT, g::play, -1, 26);
            g.write(0);
            g.write(25);
            g.play(0);
            g.play(25);
            Probe.due("slip", Probe.slip(g), "az");
            Probe.due("fragment", Probe.fragment(g), "az");
        }

        @Sentence("The dictionary has at most 50 words, each of 2 to 10 letters and each once; it is "
                + "empty at first.")
        static void emptyAndFull() {
            GhostGame g = new GhostGame();
            Probe.due("at first", g.words(), 0);
            g.write(0);
            Probe.due("one letter", Probe.thrownBy(g::addWord), Probe.ARGUMENT);
            Probe.addPairs(g, 48);
            Probe.due("once more", Probe.thrownBy(g::addWord), Probe.STATE);
            Probe.spell(g, "zzzzzzzzzz");
            Probe.due("ten letters", g.addWord(), 49);
            Probe.due("ten letters once more", Probe.thrownBy(g::addWord), Probe.STATE);
            Probe.spell(g, "zz");
            Probe.due("the fiftieth", g.addWord(), 50);
            Probe.spell(g, "yy");
            Probe.due("one too many", Probe.thrownBy(g::addWord), Probe.STATE);
            Probe.due("at most", g.words(), 50);
            Probe.due("it was not added", g.isWord(), false);
        }

        @Sentence("A word counts if it has at least as many letters as the least length, which is 3 "
                + "at first; the others are in the dictionary, but of no effect in the game and for "
                + "the solver.")
        static void justLongEnoughAndOneLetterLess() {
            GhostGame g = Probe.gameWith("ab zzz");
            Probe.due("the solver", Probe.lettersIn(g.openLetters()), "{z}");
            g.start(2);
            Probe.due("two letters", Probe.letters(g, "ab"), GhostGame.NONE);
            Probe.due("two letters that are challenged", g.challenge(), 1);
            Probe.due("three letters", Probe.letters(g, "zzz"), 1);
            g.setLeastLength(4);
            Probe.due("three letters, four are the least", Probe.letters(g, "zzz"),
                    GhostGame.NONE);
            Probe.due("they are challenged", g.challenge(), 1);
            Probe.due("no word counts", Probe.lettersIn(g.openLetters()), "{}");
            g.setLeastLength(2);
            Probe.due("two letters, two are the least", Probe.letters(g, "ab"), 0);
            g.setLeastLength(10);
            Probe.due("all are in the dictionary", Probe.wordList(g), "ab zzz");
        }

        @Sentence("Words are ordered by their numbers of letters, those with the same number by the "
                + "alphabet: by the lesser letter at the first place where they differ.")
        static void byLengthThenByTheAlphabet() {
            GhostGame g = Probe.gameWith(
                    "zz aaaaaaaaaa abc az abb ba acb zzzzzzzzzz zzzzzzzzza azzzzzzzzz aa");
            Probe.due("order", Probe.wordList(g), "aa az ba zz abb abc acb aaaaaaaaaa azzzzzzzzz "
                    + "zzzzzzzzza zzzzzzzzzz");
            Probe.remove(g, "aa ba zzzzzzzzzz");
            Probe.add(g, "ay ab");
            Probe.due("after removals", Probe.wordList(g),
                    "ab ay az zz abb abc acb aaaaaaaaaa azzzzzzzzz zzzzzzzzza");
        }

        @Sentence("There is a slip, on which up to 10 letters can be written, to tell words; it is "
                + "empty at first.")
        static void upToTenLetters() {
            GhostGame g = new GhostGame();
            Probe.due("at first", g.slipLength(), 0);
            for (int i = 1; i <= 10; i++) {
                Probe.due("letter " + i, g.write(i), i);
            }
            Probe.throwsWith(g, Probe.STATE, g::write, 11);
        }
    }

    @Section("Terms")
    static final class TheRound {
        @Sentence("Players in turn add a letter to a fragment; who completes a word loses the round, "
                + "and so does who is challenged with a fragment that begins no word, or challenges "
                + "one that does.")
        static void threeWaysToLose() {
            GhostGame g = Probe.gameWith("abc");
            g.start(2);
            Probe.due("who completes abc", Probe.letters(g, "abc"), 0);
            Probe.letters(g, "ax");
            Probe.due("who is challenged with ax", g.challenge(), 1);
            Probe.letters(g, "a");
            Probe.due("who challenges a", g.challenge(), 0);
            Probe.due("strikes", Probe.game(g), "turn 0 winner -1 strikes [2, 1] fragment ");
        }

        @Sentence("There is no game at first.")
        static void noGame() {
            GhostGame g = new GhostGame();
            Probe.due("game", Probe.game(g), "turn -1 winner -1 strikes [] fragment ");
            Probe.throwsWith(g, Probe.STATE, g::play, 0);
            Probe.throwsIt("challenge", g, Probe.STATE, g::challenge);
            Probe.throwsWith(g, Probe.INDEX, g::strikes, 0);
            Probe.throwsWith(g, Probe.INDEX, g::fragmentAt, 0);
        }

        @Sentence("Players are numbered from 0.")
        static void fromZeroUp() {
            GhostGame g = new GhostGame();
            g.start(4);
            Probe.due("the first", g.turn(), 0);
            Probe.letters(g, "zzz");
            Probe.due("the last", g.turn(), 3);
            Probe.throwsWith(g, Probe.INDEX, g::strikes, -1, 4);
        }

        @Sentence("In a round the fragment is empty at first; the player whose turn it is plays a "
                + "letter, which is added to the fragment.")
        static void fromTheEmptyFragmentOn() {
            GhostGame g = Probe.gameWith("abc");
            g.start(2);
            Probe.due("a new game", Probe.fragment(g), "");
            g.play(2);
            Probe.due("one letter", Probe.fragment(g), "c");
            g.play(0);
            Probe.due("two letters", Probe.fragment(g), "ca");
            g.challenge();
            Probe.due("a new round behind a challenge", Probe.fragment(g), "");
            Probe.letters(g, "abc");
            Probe.due("a new round behind a word", Probe.fragment(g), "");
            g.play(0);
            Probe.due("nothing comes back", Probe.fragment(g), "a");
        }

        @Sentence("If the fragment is a word that counts then, the player loses the round; otherwise "
                + "it is the turn of the next player.")
        static void justThen() {
            GhostGame g = Probe.gameWith("ab abcd");
            g.start(3);
            Probe.due("a word that does not count", Probe.letters(g, "ab"), GhostGame.NONE);
            Probe.due("the next player", g.turn(), 2);
            Probe.add(g, "abc");
            Probe.due("a word added during the round", g.play(2), 2);
            Probe.letters(g, "ab");
            Probe.remove(g, "abc");
            Probe.due("a word removed during the round", g.play(2), GhostGame.NONE);
            Probe.due("the word behind it", g.play(3), 2);
            Probe.due("a word behind other letters", Probe.letters(g, "zabcd"), GhostGame.NONE);
            Probe.add(g, "zabcd");
            Probe.due("the fragment was no word then", g.play(0), GhostGame.NONE);
            Probe.due("the next player again", g.turn(), 2);
        }

        @Sentence("Instead of playing, the player whose turn it is can challenge, if the fragment is "
                + "not empty: if a word that counts begins with the fragment, it loses the round "
                + "itself, and otherwise the player who played last does.")
        static void emptyBegunAndNotBegun() {
            GhostGame g = Probe.gameWith("ab bcd");
            g.start(2);
            Probe.throwsIt("an empty fragment", g, Probe.STATE, g::challenge);
            Probe.letters(g, "b");
            Probe.due("a word that counts", g.challenge(), 1);
            Probe.letters(g, "c");
            Probe.due("no word", g.challenge(), 1);
            Probe.letters(g, "a");
            Probe.due("a word that does not count", g.challenge(), 1);
            Probe.letters(g, "a");
            g.setLeastLength(2);
            Probe.due("it counts now", g.challenge(), 0);
            Probe.letters(g, "bcx");
            Probe.due("a word begins with its beginning alone", g.challenge(), 0);
        }

        @Sentence("(A word that is the fragment itself begins with it, too; words may have been "
                + "added since.)")
        static void theFragmentItself() {
            GhostGame g = new GhostGame();
            g.start(2);
            Probe.letters(g, "abc");
            Probe.add(g, "abc");
            Probe.due("the word is the fragment", g.challenge(), 1);
            Probe.letters(g, "zzzzzzzzzz");
            Probe.add(g, "zzzzzzzzzz");
            Probe.due("ten letters", g.challenge(), 1);
            Probe.letters(g, "ab");
            Probe.remove(g, "abc");
            Probe.add(g, "ab");
            Probe.due("the word does not count", g.challenge(), 0);
        }

        @Sentence("A fragment of 10 letters can only be challenged.")
        static void tenLetters() {
            GhostGame g = new GhostGame();
            g.start(3);
            Probe.due("nine letters", Probe.letters(g, "abcdefghi"), GhostGame.NONE);
            Probe.due("the tenth", g.play(9), GhostGame.NONE);
            Probe.throwsWith(g, Probe.STATE, g::play, 10);
            Probe.due("challenged", g.challenge(), 0);
            Probe.due("a new round", g.play(10), GhostGame.NONE);
        }
    }

    @Section("Terms")
    static final class TheStrikes {
        @Sentence("Who loses a round gets a strike; a player with 5 strikes is out.")
        static void fourAndFive() {
            GhostGame g = new GhostGame();
            g.start(3);
            Probe.rounds(g, 4, "z", 0);
            Probe.due("four strikes", Probe.game(g),
                    "turn 0 winner -1 strikes [4, 0, 0] fragment ");
            Probe.rounds(g, 1, "z", 0);
            Probe.due("five strikes", Probe.game(g),
                    "turn 1 winner -1 strikes [5, 0, 0] fragment ");
            Probe.letters(g, "zz");
            Probe.due("out", g.turn(), 1);
        }

        @Sentence("When one player is left, this is the winner, and the game is over.")
        static void oneOfTwoToFour() {
            for (int players = 2; players <= 4; players++) {
                GhostGame g = Probe.gameWith("abc");
                g.start(players);
                for (int loser = 0; loser < players - 1; loser++) {
                    Probe.due("not over", g.winner(), GhostGame.NONE);
                    Probe.rounds(g, 5, "z", loser);
                }
                Probe.due("the last is left", g.winner(), players - 1);
                dueOver(g);
            }
            GhostGame g = Probe.gameWith("abc");
            g.start(2);
            Probe.rounds(g, 1, "zz", 1);
            for (int i = 0; i < 4; i++) {
                Probe.letters(g, "abc");
            }
            Probe.due("the first is left, by a word", g.winner(), 0);
            dueOver(g);
        }

        private static void dueOver(GhostGame g) {
            Probe.due("no turn", g.turn(), GhostGame.NONE);
            Probe.due("no fragment", g.fragmentLength(), 0);
            Probe.throwsWith(g, Probe.STATE, g::play, 0);
            Probe.throwsIt("challenge", g, Probe.STATE, g::challenge);
        }

        @Sentence("Otherwise a new round begins: it is the turn of the player who lost or, if that "
                + "one is out, of the next one.")
        static void theLoserOrTheNext() {
            GhostGame g = new GhostGame();
            g.start(4);
            Probe.rounds(g, 1, "zzz", 2);
            Probe.due("the player who lost", g.turn(), 2);
            Probe.rounds(g, 3, "z", 2);
            Probe.due("four strikes", g.turn(), 2);
            Probe.rounds(g, 1, "z", 2);
            Probe.due("five strikes: the next one", g.turn(), 3);
            Probe.rounds(g, 5, "z", 3);
            Probe.due("the highest one is out: the lowest", g.turn(), 0);
            Probe.rounds(g, 1, "zz", 1);
            Probe.rounds(g, 4, "z", 1);
            Probe.due("one is left", Probe.game(g), "turn -1 winner 0 strikes [0, 5, 5, 5] "
                    + "fragment ");
        }

        @Sentence("The next player is that with the next higher number who is not out, behind the "
                + "highest one that with the lowest number.")
        static void pastThoseWhoAreOut() {
            GhostGame g = new GhostGame();
            g.start(4);
            dueTurns(g, "123012");
            g.start(4);
            Probe.rounds(g, 1, "zz", 1);
            Probe.rounds(g, 4, "z", 1);
            dueTurns(g, "302302");
            g.start(4);
            Probe.rounds(g, 5, "z", 0);
            dueTurns(g, "231231");
            Probe.due("the challenge", g.challenge(), 3);
            Probe.rounds(g, 4, "z", 3);
            dueTurns(g, "212121");
        }

        private static void dueTurns(GhostGame g, String players) {
            for (int i = 0; i < players.length(); i++) {
                g.play(25);
                Probe.due("turn " + i + " of " + players, g.turn(), players.charAt(i) - '0');
            }
        }
    }

    @Section("Terms")
    static final class TheSolver {
        @Sentence("The solver looks at the fragment (the empty one if there is no game, or it is "
                + "over), and at two sides, of which one, the mover, has the next turn.")
        static void noGameOverOrFragment() {
            GhostGame g = Probe.gameWith("abc bbbb");
            String atFirst = "open {ab} winning {b} canWin true end 4 best 1 ways 2 won 1";
            Probe.spell(g, "a");
            Probe.due("no game", Probe.solver(g), atFirst);
            g.start(3);
            Probe.due("a new round", Probe.solver(g), atFirst);
            Probe.letters(g, "a");
            Probe.due("behind a", Probe.solver(g),
                    "open {b} winning {b} canWin true end 2 best 1 ways 1 won 1");
            Probe.letters(g, "b");
            Probe.due("behind ab", Probe.solver(g),
                    "open {c} winning {} canWin false end 1 best 2 ways 1 won 0");
            Probe.letters(g, "zzzzzzzz");
            Probe.due("behind ten letters", Probe.solver(g),
                    "open {} winning {} canWin true end 0 best -1 ways 0 won 0");
            Probe.playUntilOver(g);
            Probe.due("over", Probe.solver(g), atFirst);
        }

        @Sentence("Sides play in turn, each time a letter with which the fragment begins a word that "
                + "counts, or is one; who completes one loses.")
        static void twoSidesOfUpToFourPlayers() {
            for (int letters = 2; letters <= 10; letters++) {
                GhostGame g = Probe.gameWith("abcdefghij".substring(0, letters));
                g.setLeastLength(letters);
                g.start(2 + letters % 3);
                Probe.due("letters", g.end(), letters);
                Probe.due("the other side completes " + letters, g.canWin(), letters % 2 == 0);
            }
        }

        @Sentence("A letter is open if a word that counts begins with the fragment and it.")
        static void completingAndNotCounting() {
            GhostGame g = Probe.gameWith("ab abc abde zz");
            Probe.due("the empty fragment", Probe.lettersIn(g.openLetters()), "{a}");
            Probe.startWith(g, "a");
            Probe.due("a word that does not count, but begins others",
                    Probe.lettersIn(g.openLetters()), "{b}");
            Probe.letters(g, "b");
            Probe.due("one completes a word", Probe.lettersIn(g.openLetters()), "{cd}");
            Probe.startWith(g, "z");
            Probe.due("one completes a word that does not count",
                    Probe.lettersIn(g.openLetters()), "{}");
        }

        @Sentence("If no letter is open, the mover wins at once.")
        static void noLetterIsOpen() {
            String atOnce = "open {} winning {} canWin true end 0 best -1 ways 0 won 0";
            GhostGame g = new GhostGame();
            Probe.due("no words", Probe.solver(g), atOnce);
            Probe.add(g, "ab");
            Probe.due("no word counts", Probe.solver(g), atOnce);
            Probe.add(g, "bcd");
            Probe.startWith(g, "a");
            Probe.due("behind one letter", Probe.solver(g), atOnce);
            Probe.letters(g, "bcdefghij");
            Probe.due("behind ten letters", Probe.solver(g), atOnce);
            Probe.add(g, "abcdefghij");
            Probe.due("behind a word of ten letters", Probe.solver(g), atOnce);
        }

        @Sentence("The solver does not care whether a word that counts is the fragment itself.")
        static void theFragmentItself() {
            GhostGame g = Probe.gameWith("abcd abce abcee");
            Probe.startWith(g, "abc");
            String before = Probe.solver(g);
            Probe.due("no word", before,
                    "open {de} winning {} canWin false end 1 best 3 ways 2 won 0");
            Probe.add(g, "abc");
            Probe.due("a word that counts", Probe.solver(g), before);
        }

        @Sentence("The mover can win if no letter is open, or if there is an open letter that does "
                + "not complete a word that counts, and behind which the other side, then being the "
                + "mover, cannot win.")
        static void eachWayToWin() {
            GhostGame g = new GhostGame();
            Probe.due("no letter is open", g.canWin(), true);
            Probe.add(g, "aaa");
            Probe.due("the other side can win behind the only letter", g.canWin(), false);
            Probe.add(g, "bbbb");
            Probe.due("it cannot win behind another", g.canWin(), true);
            Probe.startWith(g, "aa");
            Probe.due("the only letter completes", g.canWin(), false);
            Probe.add(g, "aaaaaa");
            Probe.due("nothing lies behind a word", g.canWin(), false);
            Probe.add(g, "aabb");
            Probe.due("another letter does not complete", g.canWin(), true);
            Probe.add(g, "aabcc");
            Probe.due("but the other side can win behind it", g.canWin(), false);
        }

        @Sentence("The end is how many letters are played until it is over: 0 if no letter is open; "
                + "otherwise, if the mover can win, the least number that it can have, and if it "
                + "cannot win, the greatest one, when both sides play like this: who can win chooses "
                + "letters that win with the least end, and who cannot, open letters with the "
                + "greatest end.")
        static void leastAndGreatestEnd() {
            GhostGame g = new GhostGame();
            Probe.due("no letter is open", g.end(), 0);
            Probe.add(g, "aaa");
            Probe.due("three letters", g.end(), 3);
            Probe.add(g, "bbbbb");
            Probe.due("who cannot win takes the greatest end", g.end(), 5);
            Probe.add(g, "cccccccccc");
            Probe.due("who can win wins", g.end(), 10);
            Probe.add(g, "dddddd");
            Probe.due("and takes the least end", g.end(), 6);
            Probe.add(g, "eeee eefggggg");
            Probe.due("the winner does not take the longer one", g.end(), 4);
            Probe.add(g, "effffffg");
            Probe.due("the loser takes the longer one", g.end(), 6);
        }

        @Sentence("(Completing a word is an end of 1.)")
        static void oneLetter() {
            GhostGame g = Probe.gameWith("abc");
            Probe.startWith(g, "ab");
            Probe.due("the only letter completes", g.end(), 1);
            Probe.add(g, "abcde");
            Probe.due("a longer word behind it", g.end(), 1);
            Probe.add(g, "abdeee");
            Probe.due("another letter wins", g.end(), 4);
        }
    }

    @Section("Terms")
    static final class TheExceptions {
        @Sentence("An IndexOutOfBoundsException is thrown if there is no such player or place, an "
                + "IllegalArgumentException if another argument is out of its range, an "
                + "IllegalStateException as told.")
        static void eachKind() {
            GhostGame g = Probe.gameWith("abc");
            g.start(2);
            Probe.throwsWith(g, Probe.INDEX, g::strikes, -1, 2, LEAST, GREATEST);
            Probe.throwsWith(g, Probe.INDEX, g::slipAt, -1, 3, LEAST, GREATEST);
            Probe.throwsWith(g, Probe.INDEX, g::fragmentAt, -1, 0, LEAST, GREATEST);
            Probe.throwsWith(g, Probe.INDEX, g::copyWord, -1, 1, LEAST, GREATEST);
            Probe.throwsWith(g, Probe.ARGUMENT, g::write, -1, 26, LEAST, GREATEST);
            Probe.throwsWith(g, Probe.ARGUMENT, g::play, -1, 26, LEAST, GREATEST);
            Probe.throwsWith(g, Probe.ARGUMENT, g::start, 1, 5, LEAST, GREATEST);
            Probe.throwsWith(g, Probe.ARGUMENT, g::setLeastLength, 1, 11, LEAST, GREATEST);
            Probe.due("as told", Probe.thrownBy(g::challenge), Probe.STATE);
        }

        @Sentence("If several exceptions of a throws clause apply, the one that is listed first is "
                + "thrown.")
        static void theFirstOfTwo() {
            GhostGame g = new GhostGame();
            Probe.throwsWith(g, Probe.ARGUMENT, g::play, -1, 26);
            Probe.spell(g, "zzzzzzzzzz");
            Probe.throwsWith(g, Probe.ARGUMENT, g::write, -1, 26);
            Probe.startWith(g, "zzzzzzzzzz");
            Probe.throwsWith(g, Probe.ARGUMENT, g::play, -1, 26);
            Probe.playUntilOver(g);
            Probe.throwsWith(g, Probe.ARGUMENT, g::play, -1, 26);
            GhostGame full = new GhostGame();
            Probe.addPairs(full, 50);
            full.wipe();
            Probe.throwsIt("an empty slip, 50 words", full, Probe.ARGUMENT, full::addWord);
            full.write(0);
            Probe.throwsIt("one letter, 50 words", full, Probe.ARGUMENT, full::addWord);
        }

        @Sentence("A call that throws an exception changes nothing.")
        static void allGoesOn() {
            GhostGame g = Probe.gameWith("abcd abcdefghij");
            g.start(3);
            Probe.rounds(g, 1, "zz", 1);
            Probe.letters(g, "abx");
            Probe.throwsWith(g, Probe.ARGUMENT, g::play, 26);
            Probe.throwsWith(g, Probe.STATE, g::write, 0);
            Probe.throwsIt("addWord", g, Probe.STATE, g::addWord);
            Probe.throwsWith(g, Probe.INDEX, g::copyWord, 2);
            Probe.throwsWith(g, Probe.ARGUMENT, g::start, 5);
            Probe.due("who played last is the same", g.challenge(), 0);
            Probe.due("challenge", Probe.thrownBy(g::challenge), Probe.STATE);
            Probe.due("the next round, too", Probe.letters(g, "abcd"), 0);
            g.wipe();
            Probe.due("removeWord", Probe.thrownBy(g::removeWord), Probe.STATE);
            Probe.due("setLeastLength", Probe.thrownBy(() -> g.setLeastLength(11)),
                    Probe.ARGUMENT);
            Probe.due("the words stay", Probe.wordList(g), "abcd abcdefghij");
            Probe.due("the least length, too", g.setLeastLength(3), 3);
        }

        @Sentence("The constants: `NONE = -1`: There is none.")
        static void none() {
            GhostGame g = new GhostGame();
            Probe.due("the constant", GhostGame.NONE, -1);
            Probe.due("turn", g.turn(), -1);
            Probe.due("winner", g.winner(), -1);
            Probe.due("bestLetter", g.bestLetter(), -1);
            g.start(2);
            Probe.due("play", g.play(0), -1);
        }
    }
}
