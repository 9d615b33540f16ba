/** Promises 23 to 29: the solver. */
final class SolverSentences {
    private SolverSentences() {
    }

    @Section("Promise 23: openLetters")
    static final class OpenLetters {
        @Sentence("Returns the letters that are open; bit k for the letter k.")
        static void noneToAll() {
            GhostGame g = new GhostGame();
            Probe.due("no words", g.openLetters(), 0);
            Probe.add(g, "abc abd zz zza");
            Probe.due("bit 0 and bit 25", g.openLetters(), 1 | 1 << 25);
            Probe.startWith(g, "ab");
            Probe.due("bit 2 and bit 3, which complete", g.openLetters(), 4 | 8);
            Probe.letters(g, "x");
            Probe.due("behind letters of no word", g.openLetters(), 0);
            Probe.startWith(g, "zz");
            Probe.due("behind a word that does not count", g.openLetters(), 1);
            Probe.startWith(g, "z");
            Probe.remove(g, "zza");
            Probe.due("none that counts is left", g.openLetters(), 0);
            g.setLeastLength(2);
            Probe.due("one counts now", g.openLetters(), 1 << 25);
            GhostGame full = new GhostGame();
            Probe.addPairs(full, 50);
            full.setLeastLength(2);
            Probe.due("the first and the last of 50 words", full.openLetters(), 31);
            GhostGame all = new GhostGame();
            for (char c = 'a'; c <= 'z'; c++) {
                Probe.add(all, c + "xyz");
            }
            Probe.due("all", all.openLetters(), (1 << 26) - 1);
            Probe.startWith(all, "zzzzzzzzzz");
            Probe.add(all, "zzzzzzzzzz");
            Probe.due("behind ten letters", all.openLetters(), 0);
        }
    }

    @Section("Promise 24: winningLetters")
    static final class WinningLetters {
        @Sentence("Returns the open letters that do not complete a word that counts, and behind "
                + "which the other side cannot win; bit k for the letter k.")
        static void openWithoutThoseThatLose() {
            GhostGame g = new GhostGame();
            dueLetters("no words", g.winningLetters(), "");
            Probe.add(g, "abc");
            dueLetters("the mover completes abc", g.winningLetters(), "");
            Probe.add(g, "bcde");
            dueLetters("the other side completes bcde", g.winningLetters(), "b");
            Probe.add(g, "zzzzzz");
            dueLetters("and zzzzzz", g.winningLetters(), "bz");
            Probe.add(g, "bcd");
            dueLetters("bcd comes before bcde", g.winningLetters(), "z");
            Probe.add(g, "zza");
            dueLetters("zza can be left", g.winningLetters(), "z");
            Probe.startWith(g, "zz");
            dueLetters("behind zz, a completes", g.winningLetters(), "z");
            Probe.letters(g, "zzz");
            dueLetters("behind zzzzz, z completes", g.winningLetters(), "");
            Probe.letters(g, "x");
            dueLetters("no letter is open", g.winningLetters(), "");
            g.start(2);
            Probe.add(g, "axyz");
            g.setLeastLength(4);
            Probe.due("bit 0, bit 1 and bit 25", g.winningLetters(), 1 | 2 | 1 << 25);
            g.setLeastLength(7);
            dueLetters("no word counts", g.winningLetters(), "");
        }
    }

    @Section("Promise 25: canWin")
    static final class CanWin {
        @Sentence("Tells whether the mover can win.")
        static void atOnceLaterOrNot() {
            GhostGame g = new GhostGame();
            Probe.due("no letter is open", g.canWin(), true);
            Probe.add(g, "abc");
            Probe.due("three letters", g.canWin(), false);
            Probe.add(g, "abcd");
            Probe.due("abcd lies behind abc", g.canWin(), false);
            Probe.add(g, "bbbb");
            Probe.due("four letters", g.canWin(), true);
            Probe.add(g, "bbc");
            Probe.due("bbc can be left", g.canWin(), true);
            Probe.add(g, "bcd");
            Probe.due("the other side leads to bcd", g.canWin(), false);
            Probe.startWith(g, "b");
            Probe.due("behind b", g.canWin(), true);
            Probe.letters(g, "c");
            Probe.due("behind bc", g.canWin(), false);
            Probe.letters(g, "x");
            Probe.due("behind bcx", g.canWin(), true);
            g.start(2);
            g.setLeastLength(4);
            Probe.due("words of three do not count", g.canWin(), true);
            g.setLeastLength(10);
            Probe.due("no word counts", g.canWin(), true);
        }
    }

    @Section("Promise 26: end")
    static final class End {
        @Sentence("Returns the end.")
        static void noneToTen() {
            GhostGame g = new GhostGame();
            Probe.due("no letter is open", g.end(), 0);
            Probe.add(g, "defg");
            Probe.due("the only word", g.end(), 4);
            Probe.add(g, "deabcd");
            Probe.due("the winner does not take the longer one", g.end(), 4);
            Probe.add(g, "dgabcd");
            Probe.due("the loser takes the longer one", g.end(), 6);
            Probe.add(g, "dgac");
            Probe.due("the loser leaves the shorter one", g.end(), 6);
            Probe.add(g, "dgbc");
            Probe.due("the winner takes the shorter one", g.end(), 4);
            Probe.startWith(g, "deabc");
            Probe.due("one letter left", g.end(), 1);
            Probe.letters(g, "z");
            Probe.due("no letter is open behind others", g.end(), 0);
            GhostGame ten = Probe.gameWith("zzzzzzzzzz");
            ten.setLeastLength(10);
            Probe.due("ten letters", ten.end(), 10);
            Probe.startWith(ten, "z");
            Probe.due("nine are left", ten.end(), 9);
            Probe.letters(ten, "zzzzzzzz");
            Probe.due("one is left", ten.end(), 1);
        }
    }

    @Section("Promise 27: bestLetter")
    static final class BestLetter {
        @Sentence("Returns the letter that the mover chooses, of several the least; NONE if no "
                + "letter is open.")
        static void leastOfTheBestOrNone() {
            GhostGame g = new GhostGame();
            Probe.due("no letter is open", g.bestLetter(), GhostGame.NONE);
            dueLetter("it loses, but it is open", g, "ccc", 'c');
            dueLetter("of several that lose the least", g, "bbb", 'b');
            dueLetter("who cannot win takes the greatest end", g, "ddddd", 'd');
            dueLetter("who can win wins", g, "zzzzzz", 'z');
            dueLetter("of several that win the least", g, "yyyyyy", 'y');
            dueLetter("the least end", g, "zzab", 'z');
            dueLetter("the letter 0 as well", g, "aaaa", 'a');
            Probe.startWith(g, "zz");
            dueLetter("behind zz", g, "zzbbbb", 'a');
            Probe.letters(g, "ax");
            Probe.due("no letter is open behind others", g.bestLetter(), GhostGame.NONE);
            GhostGame h = Probe.gameWith("aba abbb");
            Probe.startWith(h, "ab");
            Probe.due("a completes, b wins", h.bestLetter(), 1);
            Probe.letters(h, "b");
            dueLetter("two complete", h, "abba", 'a');
        }

        private static void dueLetter(String what, GhostGame g, String added, char letter) {
            Probe.add(g, added);
            Probe.due(what, g.bestLetter(), letter - 'a');
        }
    }

    @Section("Promise 28: waysToPlay")
    static final class WaysToPlay {
        @Sentence("Returns how many ways there are to play on: words that count, begin with the "
                + "fragment, are longer, and have no beginning, longer than the fragment and shorter "
                + "than the word, that is a word that counts.")
        static void noneToFifty() {
            GhostGame g = new GhostGame();
            Probe.due("no words", g.waysToPlay(), 0);
            Probe.add(g, "ab abc abcd abd bcde");
            Probe.due("ab does not count, abcd lies behind abc", g.waysToPlay(), 3);
            g.setLeastLength(2);
            Probe.due("the others lie behind ab", g.waysToPlay(), 2);
            g.setLeastLength(4);
            Probe.due("four letters", g.waysToPlay(), 2);
            Probe.startWith(g, "ab");
            g.setLeastLength(3);
            Probe.due("behind ab", g.waysToPlay(), 2);
            g.setLeastLength(2);
            Probe.due("behind ab, which is a word that counts", g.waysToPlay(), 2);
            g.setLeastLength(4);
            Probe.letters(g, "c");
            g.setLeastLength(2);
            Probe.due("behind abc, which is one, too", g.waysToPlay(), 1);
            g.setLeastLength(5);
            Probe.due("no word counts", g.waysToPlay(), 0);
            g.setLeastLength(3);
            Probe.letters(g, "x");
            Probe.due("no letter is open", g.waysToPlay(), 0);
            GhostGame full = new GhostGame();
            Probe.addPairs(full, 50);
            full.setLeastLength(2);
            Probe.due("fifty", full.waysToPlay(), 50);
        }
    }

    @Section("Promise 29: waysToWin")
    static final class WaysToWin {
        @Sentence("Returns how many of these ways the mover wins: the other side completes the word.")
        static void noneToFifty() {
            GhostGame g = new GhostGame();
            Probe.due("no words", g.waysToWin(), 0);
            Probe.add(g, "abc bcde bcdf cdefgh");
            Probe.due("an even number of letters", g.waysToWin(), 3);
            Probe.startWith(g, "b");
            Probe.due("behind b an odd number", g.waysToWin(), 0);
            Probe.letters(g, "c");
            Probe.due("behind bc an even number", g.waysToWin(), 2);
            Probe.startWith(g, "ab");
            Probe.due("behind ab one letter is left", g.waysToWin(), 0);
            Probe.letters(g, "x");
            Probe.due("no letter is open", g.waysToWin(), 0);
            g.start(2);
            Probe.add(g, "cde");
            Probe.due("cdefgh lies behind cde", g.waysToWin(), 2);
            g.setLeastLength(4);
            Probe.due("cde does not count", g.waysToWin(), 3);
            g.setLeastLength(2);
            Probe.add(g, "bc");
            Probe.due("bcde and bcdf lie behind bc", g.waysToWin(), 1);
            GhostGame full = new GhostGame();
            Probe.addPairs(full, 50);
            full.setLeastLength(2);
            Probe.due("fifty", full.waysToWin(), 50);
        }
    }

    private static void dueLetters(String what, int mask, String letters) {
        Probe.due(what, Probe.lettersIn(mask), "{" + letters + "}");
    }
}
