/** Promises 23 to 29: the solver. */
public final class SolverTest {
    public static void main(String[] args) {
        openLetters();
        winningLetters();
        canWin();
        end();
        bestLetter();
        waysToPlay();
        waysToWin();
        fragmentOfTheSolver();
        Probe.finish("SolverTest");
    }

    private static void openLetters() {
        Probe.promise("23 openLetters");
        GhostGame g = new GhostGame();
        dueLetters("no words", g.openLetters(), "");
        Probe.add(g, "abc abd zz zza");
        dueLetters("no game", g.openLetters(), "az");
        Probe.startWith(g, "a");
        dueLetters("behind a", g.openLetters(), "b");
        Probe.letters(g, "b");
        dueLetters("behind ab, letters that complete", g.openLetters(), "cd");
        Probe.letters(g, "x");
        dueLetters("behind abx", g.openLetters(), "");
        Probe.startWith(g, "zz");
        dueLetters("behind zz", g.openLetters(), "a");
        Probe.startWith(g, "z");
        Probe.remove(g, "zza");
        dueLetters("behind z, zz does not count", g.openLetters(), "");
        g.setLeastLength(2);
        dueLetters("behind z, zz counts", g.openLetters(), "z");
        g.setLeastLength(4);
        g.start(2);
        dueLetters("no word counts", g.openLetters(), "");
        GhostGame all = new GhostGame();
        for (char c = 'a'; c <= 'z'; c++) {
            Probe.add(all, c + "xyz");
        }
        dueLetters("all", all.openLetters(), "abcdefghijklmnopqrstuvwxyz");
        Probe.startWith(all, "zzzzzzzzzz");
        Probe.add(all, "zzzzzzzzzz");
        dueLetters("behind ten letters", all.openLetters(), "");
    }

    private static void winningLetters() {
        Probe.promise("24 winningLetters");
        GhostGame g = new GhostGame();
        dueLetters("no words", g.winningLetters(), "");
        Probe.add(g, "abc");
        dueLetters("the mover completes abc", g.winningLetters(), "");
        Probe.add(g, "bcde");
        dueLetters("the other side completes bcde", g.winningLetters(), "b");
        Probe.add(g, "zzzzzz");
        dueLetters("and zzzzzz", g.winningLetters(), "bz");
        Probe.add(g, "bcd");
        dueLetters("bcd comes before bcde", g.winningLetters(), "z");
        Probe.add(g, "zza");
        dueLetters("zza can be left", g.winningLetters(), "z");
        Probe.startWith(g, "z");
        dueLetters("behind z", g.winningLetters(), "");
        Probe.letters(g, "z");
        dueLetters("behind zz, a completes", g.winningLetters(), "z");
        Probe.letters(g, "zzz");
        dueLetters("behind zzzzz", g.winningLetters(), "");
        Probe.letters(g, "x");
        dueLetters("no letter is open", g.winningLetters(), "");
        g.start(2);
        g.setLeastLength(4);
        dueLetters("abc and bcd do not count", g.winningLetters(), "bz");
        Probe.add(g, "axyz");
        dueLetters("the least letter, too", g.winningLetters(), "abz");
    }

    private static void canWin() {
        Probe.promise("25 canWin");
        GhostGame g = new GhostGame();
        Probe.due("no letter is open", g.canWin(), true);
        Probe.add(g, "abc");
        Probe.due("three letters", g.canWin(), false);
        Probe.add(g, "abcd");
        Probe.due("abcd lies behind abc", g.canWin(), false);
        Probe.add(g, "bbbb");
        Probe.due("four letters", g.canWin(), true);
        Probe.add(g, "bbc");
        Probe.due("bbc can be left", g.canWin(), true);
        Probe.add(g, "bcd");
        Probe.due("the other side leads to bcd", g.canWin(), false);
        Probe.startWith(g, "b");
        Probe.due("behind b", g.canWin(), true);
        Probe.letters(g, "c");
        Probe.due("behind bc", g.canWin(), false);
        Probe.letters(g, "x");
        Probe.due("behind bcx", g.canWin(), true);
        g.start(2);
        g.setLeastLength(4);
        Probe.due("words of three do not count", g.canWin(), true);
        g.setLeastLength(10);
        Probe.due("no word counts", g.canWin(), true);
    }

    private static void end() {
        Probe.promise("26 end");
        GhostGame g = new GhostGame();
        Probe.due("no letter is open", g.end(), 0);
        Probe.add(g, "abcde");
        Probe.due("the only word", g.end(), 5);
        Probe.add(g, "bcdefgh");
        Probe.due("who cannot win takes the greatest end", g.end(), 7);
        Probe.add(g, "cdefghij");
        Probe.due("who can win wins", g.end(), 8);
        Probe.add(g, "defg");
        Probe.due("and takes the least end", g.end(), 4);
        Probe.add(g, "defghi");
        Probe.due("a word behind a word is of no effect", g.end(), 4);
        Probe.add(g, "deabcd");
        Probe.due("the winner does not take the longer one", g.end(), 4);
        Probe.add(g, "dgabcd");
        Probe.due("the loser takes the longer one", g.end(), 6);
        Probe.add(g, "dgac");
        Probe.due("the loser leaves the shorter one", g.end(), 6);
        Probe.add(g, "dgbc");
        Probe.due("the winner takes the shorter one", g.end(), 4);
        Probe.startWith(g, "cdefghi");
        Probe.due("one letter left", g.end(), 1);
        Probe.letters(g, "z");
        Probe.due("no letter is open behind others", g.end(), 0);
        GhostGame ten = Probe.gameWith("zzzzzzzzzz");
        Probe.due("ten letters", ten.end(), 10);
        ten.setLeastLength(10);
        Probe.startWith(ten, "z");
        Probe.due("nine are left", ten.end(), 9);
    }

    private static void bestLetter() {
        Probe.promise("27 bestLetter");
        GhostGame g = new GhostGame();
        dueLetter("no letter is open", g.bestLetter(), "");
        Probe.add(g, "ccc");
        dueLetter("it loses, but it is open", g.bestLetter(), "c");
        Probe.add(g, "bbb");
        dueLetter("of several that lose the least", g.bestLetter(), "b");
        Probe.add(g, "ddddd");
        dueLetter("who cannot win takes the greatest end", g.bestLetter(), "d");
        Probe.add(g, "zzzzzz");
        dueLetter("who can win wins", g.bestLetter(), "z");
        Probe.add(g, "yyyyyy");
        dueLetter("of several that win the least", g.bestLetter(), "y");
        Probe.add(g, "zzab");
        dueLetter("the least end", g.bestLetter(), "z");
        Probe.add(g, "xxxx");
        dueLetter("of several with it the least", g.bestLetter(), "x");
        Probe.startWith(g, "zz");
        dueLetter("behind zz", g.bestLetter(), "a");
        Probe.letters(g, "ax");
        dueLetter("no letter is open behind others", g.bestLetter(), "");
        GhostGame h = Probe.gameWith("aba abbb");
        Probe.startWith(h, "ab");
        dueLetter("a completes, b wins", h.bestLetter(), "b");
        Probe.add(h, "abbc abaaaa");
        Probe.letters(h, "b");
        dueLetter("both complete", h.bestLetter(), "b");
    }

    private static void waysToPlay() {
        Probe.promise("28 waysToPlay");
        GhostGame g = new GhostGame();
        Probe.due("no words", g.waysToPlay(), 0);
        Probe.add(g, "ab abc abcd abd bcde");
        Probe.due("ab does not count, abcd lies behind abc", g.waysToPlay(), 3);
        g.setLeastLength(2);
        Probe.due("the others lie behind ab", g.waysToPlay(), 2);
        g.setLeastLength(4);
        Probe.due("four letters", g.waysToPlay(), 2);
        Probe.startWith(g, "ab");
        g.setLeastLength(3);
        Probe.due("behind ab", g.waysToPlay(), 2);
        g.setLeastLength(2);
        Probe.due("behind ab, which is a word that counts", g.waysToPlay(), 2);
        g.setLeastLength(4);
        Probe.letters(g, "c");
        g.setLeastLength(2);
        Probe.due("behind abc, which is one, too", g.waysToPlay(), 1);
        g.setLeastLength(5);
        Probe.due("no word counts", g.waysToPlay(), 0);
        g.setLeastLength(3);
        Probe.letters(g, "x");
        Probe.due("no letter is open", g.waysToPlay(), 0);
    }

    private static void waysToWin() {
        Probe.promise("29 waysToWin");
        GhostGame g = new GhostGame();
        Probe.due("no words", g.waysToWin(), 0);
        Probe.add(g, "abc bcde bcdf cdefgh");
        Probe.due("an even number of letters", g.waysToWin(), 3);
        Probe.startWith(g, "b");
        Probe.due("behind b an odd number", g.waysToWin(), 0);
        Probe.letters(g, "c");
        Probe.due("behind bc an even number", g.waysToWin(), 2);
        Probe.startWith(g, "a");
        Probe.due("behind a", g.waysToWin(), 1);
        Probe.letters(g, "b");
        Probe.due("behind ab", g.waysToWin(), 0);
        Probe.letters(g, "x");
        Probe.due("no letter is open", g.waysToWin(), 0);
        g.start(2);
        Probe.add(g, "cde");
        Probe.due("cdefgh lies behind cde", g.waysToWin(), 2);
        g.setLeastLength(4);
        Probe.due("cde does not count", g.waysToWin(), 3);
        g.setLeastLength(2);
        Probe.add(g, "bc");
        Probe.due("bcde and bcdf lie behind bc", g.waysToWin(), 1);
    }

    private static void fragmentOfTheSolver() {
        Probe.promise("23 to 29, the fragment");
        GhostGame g = Probe.gameWith("abc bbbb");
        String atFirst = "open {ab} winning {b} canWin true end 4 best 1 ways 2 won 1";
        Probe.due("no game", Probe.solver(g), atFirst);
        g.start(2);
        Probe.due("a new round", Probe.solver(g), atFirst);
        Probe.letters(g, "a");
        Probe.due("behind a", Probe.solver(g),
                "open {b} winning {b} canWin true end 2 best 1 ways 1 won 1");
        String behindAb = "open {c} winning {} canWin false end 1 best 2 ways 1 won 0";
        Probe.letters(g, "b");
        Probe.due("behind ab", Probe.solver(g), behindAb);
        Probe.add(g, "ab");
        g.setLeastLength(2);
        Probe.due("behind ab, which is a word that counts", Probe.solver(g), behindAb);
        Probe.letters(g, "z");
        Probe.due("behind abz", Probe.solver(g),
                "open {} winning {} canWin true end 0 best -1 ways 0 won 0");
        g.setLeastLength(3);
        Probe.playUntilOver(g);
        Probe.due("over", Probe.solver(g), atFirst);
    }

    private static void dueLetters(String what, int mask, String letters) {
        Probe.due(what, Probe.lettersIn(mask), "{" + letters + "}");
    }

    private static void dueLetter(String what, int letter, String want) {
        Probe.due(what, letter, want.isEmpty() ? GhostGame.NONE : want.charAt(0) - 'a');
    }
}
