/** Promises 14 to 22: the game. */
public final class GameTest {
    public static void main(String[] args) {
        start();
        play();
        playAndWordsThatCount();
        challenge();
        challengeAfterTheWordsChanged();
        turn();
        turnPassesOverPlayersWhoAreOut();
        winner();
        players();
        strikes();
        fragmentLength();
        fragmentAt();
        Probe.finish("GameTest");
    }

    private static void start() {
        Probe.promise("14 start");
        GhostGame g = Probe.gameWith("abc");
        Probe.throwsIt("1", g, Probe.ARGUMENT, () -> g.start(1));
        Probe.throwsIt("5", g, Probe.ARGUMENT, () -> g.start(5));
        Probe.throwsIt("least int", g, Probe.ARGUMENT, () -> g.start(Integer.MIN_VALUE));
        Probe.throwsIt("greatest int", g, Probe.ARGUMENT, () -> g.start(Integer.MAX_VALUE));
        g.start(4);
        Probe.due("four", Probe.game(g), "turn 0 winner -1 strikes [0, 0, 0, 0] fragment ");
        Probe.rounds(g, 1, "zzz", 2);
        Probe.letters(g, "ab");
        Probe.throwsIt("5 in a game", g, Probe.ARGUMENT, () -> g.start(5));
        g.start(3);
        Probe.due("three, anew", Probe.game(g), "turn 0 winner -1 strikes [0, 0, 0] fragment ");
        Probe.due("the words stay", g.words(), 1);
        Probe.due("the slip stays", Probe.slip(g), "abc");
        Probe.playUntilOver(g);
        Probe.throwsIt("1 after a game", g, Probe.ARGUMENT, () -> g.start(1));
        g.start(2);
        Probe.due("two, anew", Probe.game(g), "turn 0 winner -1 strikes [0, 0] fragment ");
        Probe.due("it can be played", g.play(0), GhostGame.NONE);
    }

    private static void play() {
        Probe.promise("15 play");
        GhostGame g = new GhostGame();
        Probe.throwsIt("no game", g, Probe.STATE, () -> g.play(0));
        Probe.throwsIt("no game, out of range", g, Probe.ARGUMENT, () -> g.play(26));
        Probe.add(g, "abc ca");
        g.start(2);
        Probe.throwsIt("-1", g, Probe.ARGUMENT, () -> g.play(-1));
        Probe.throwsIt("26", g, Probe.ARGUMENT, () -> g.play(26));
        Probe.throwsIt("least int", g, Probe.ARGUMENT, () -> g.play(Integer.MIN_VALUE));
        Probe.throwsIt("greatest int", g, Probe.ARGUMENT, () -> g.play(Integer.MAX_VALUE));
        Probe.due("a", g.play(0), GhostGame.NONE);
        Probe.due("b", g.play(1), GhostGame.NONE);
        Probe.due("c completes abc", g.play(2), 0);
        Probe.due("the loser begins", Probe.game(g), "turn 0 winner -1 strikes [1, 0] fragment ");
        Probe.due("no word behind other letters", Probe.letters(g, "zabc"), GhostGame.NONE);
        Probe.due("up to ten letters", Probe.letters(g, "zzzzzz"), GhostGame.NONE);
        Probe.due("ten letters", Probe.fragment(g), "zabczzzzzz");
        Probe.throwsIt("an eleventh", g, Probe.STATE, () -> g.play(0));
        Probe.throwsIt("an eleventh, out of range", g, Probe.ARGUMENT, () -> g.play(-1));
        Probe.playUntilOver(g);
        Probe.throwsIt("over", g, Probe.STATE, () -> g.play(0));
        Probe.throwsIt("over, out of range", g, Probe.ARGUMENT, () -> g.play(26));
        Probe.add(g, "zzzzzzzzzz");
        g.start(3);
        Probe.due("a word of ten letters", Probe.letters(g, "zzzzzzzzzz"), 0);
    }

    private static void playAndWordsThatCount() {
        Probe.promise("15 play, words that count");
        GhostGame g = Probe.gameWith("ab abcd");
        g.start(3);
        Probe.due("two letters do not count", Probe.letters(g, "ab"), GhostGame.NONE);
        Probe.due("a beginning", Probe.letters(g, "c"), GhostGame.NONE);
        Probe.due("four letters do", Probe.letters(g, "d"), 0);
        g.setLeastLength(2);
        Probe.due("now two letters count", Probe.letters(g, "ab"), 1);
        Probe.letters(g, "a");
        Probe.remove(g, "ab");
        Probe.due("removed during the round", Probe.letters(g, "b"), GhostGame.NONE);
        Probe.add(g, "abc");
        Probe.due("added during the round", Probe.letters(g, "c"), 0);
        Probe.letters(g, "xy");
        Probe.add(g, "xy");
        Probe.due("a word that was completed before it was one", Probe.letters(g, "z"),
                GhostGame.NONE);
    }

    private static void challenge() {
        Probe.promise("16 challenge");
        GhostGame g = new GhostGame();
        Probe.throwsIt("no game", g, Probe.STATE, () -> g.challenge());
        Probe.add(g, "abc");
        g.start(3);
        Probe.throwsIt("empty fragment", g, Probe.STATE, () -> g.challenge());
        Probe.letters(g, "a");
        Probe.due("a word begins with it", g.challenge(), 1);
        Probe.due("the challenger loses", Probe.game(g),
                "turn 1 winner -1 strikes [0, 1, 0] fragment ");
        Probe.throwsIt("a new round", g, Probe.STATE, () -> g.challenge());
        Probe.letters(g, "ax");
        Probe.due("no word begins with it", g.challenge(), 2);
        Probe.due("who played last loses", Probe.game(g),
                "turn 2 winner -1 strikes [0, 1, 1] fragment ");
        Probe.letters(g, "x");
        Probe.due("2 is before 0", g.challenge(), 2);
        Probe.letters(g, "abxabcabca");
        Probe.due("ten letters", g.challenge(), 2);
        Probe.playUntilOver(g);
        Probe.throwsIt("over", g, Probe.STATE, () -> g.challenge());
    }

    private static void challengeAfterTheWordsChanged() {
        Probe.promise("16 challenge, after the words changed");
        GhostGame g = new GhostGame();
        g.start(2);
        Probe.letters(g, "abc");
        Probe.add(g, "abc");
        Probe.due("the fragment itself is a word now", g.challenge(), 1);
        Probe.letters(g, "ab");
        Probe.remove(g, "abc");
        Probe.due("the word is removed", g.challenge(), 0);
        Probe.letters(g, "ab");
        Probe.add(g, "ab");
        Probe.due("the fragment itself does not count", g.challenge(), 1);
        Probe.letters(g, "a");
        Probe.due("a longer word does not count", g.challenge(), 1);
        Probe.letters(g, "a");
        g.setLeastLength(2);
        Probe.due("it counts now", g.challenge(), 0);
    }

    private static void turn() {
        Probe.promise("17 turn");
        GhostGame g = new GhostGame();
        Probe.due("no game", g.turn(), GhostGame.NONE);
        g.start(4);
        Probe.due("at first", g.turn(), 0);
        for (int i = 1; i <= 10; i++) {
            g.play(25);
            Probe.due("after " + i, g.turn(), i % 4);
        }
        Probe.due("ten letters challenged", g.challenge(), 1);
        Probe.due("the loser begins", g.turn(), 1);
        Probe.startWith(g, "zz");
        Probe.due("of two", g.turn(), 0);
        Probe.playUntilOver(g);
        Probe.due("over", g.turn(), GhostGame.NONE);
    }

    private static void turnPassesOverPlayersWhoAreOut() {
        Probe.promise("17 turn, players who are out");
        GhostGame g = Probe.gameWith("abc");
        g.start(4);
        Probe.rounds(g, 5, "z", 0);
        Probe.due("0 is out: 1 begins", Probe.game(g),
                "turn 1 winner -1 strikes [5, 0, 0, 0] fragment ");
        Probe.letters(g, "zzz");
        Probe.due("behind 3 comes 1", g.turn(), 1);
        Probe.due("3 played last", g.challenge(), 3);
        Probe.rounds(g, 4, "z", 3);
        Probe.due("3 is out: behind it comes 1", Probe.game(g),
                "turn 1 winner -1 strikes [5, 0, 0, 5] fragment ");
        Probe.letters(g, "az");
        Probe.due("behind 2 comes 1", g.turn(), 1);
        Probe.due("2 played last", g.challenge(), 2);
        Probe.due("2 completes", Probe.letters(g, "abc"), 2);
        Probe.letters(g, "a");
        Probe.due("1 challenges a beginning", g.challenge(), 1);
        Probe.rounds(g, 4, "z", 1);
        Probe.due("2 is left", Probe.game(g), "turn -1 winner 2 strikes [5, 5, 2, 5] fragment ");
        g.start(3);
        Probe.rounds(g, 1, "zz", 1);
        Probe.rounds(g, 4, "z", 1);
        Probe.due("1 is out: 2 begins", Probe.game(g),
                "turn 2 winner -1 strikes [0, 5, 0] fragment ");
        Probe.letters(g, "zz");
        Probe.due("behind 0 comes 2", g.turn(), 2);
        Probe.due("0 played last", g.challenge(), 0);
    }

    private static void winner() {
        Probe.promise("18 winner");
        GhostGame g = Probe.gameWith("abc");
        Probe.due("no game", g.winner(), GhostGame.NONE);
        g.start(2);
        Probe.due("at first", g.winner(), GhostGame.NONE);
        Probe.rounds(g, 4, "z", 0);
        Probe.due("four strikes", g.winner(), GhostGame.NONE);
        Probe.rounds(g, 1, "z", 0);
        Probe.due("five strikes", Probe.game(g), "turn -1 winner 1 strikes [5, 0] fragment ");
        g.start(3);
        Probe.due("anew", g.winner(), GhostGame.NONE);
        Probe.rounds(g, 5, "z", 0);
        Probe.due("two are left", g.winner(), GhostGame.NONE);
        Probe.rounds(g, 5, "z", 1);
        Probe.due("one is left", g.winner(), 2);
        g.start(2);
        Probe.rounds(g, 1, "a", 1);
        for (int i = 0; i < 4; i++) {
            Probe.due("not yet", g.winner(), GhostGame.NONE);
            Probe.due("1 completes", Probe.letters(g, "abc"), 1);
        }
        Probe.due("0 wins by a word", Probe.game(g),
                "turn -1 winner 0 strikes [0, 5] fragment ");
    }

    private static void players() {
        Probe.promise("19 players");
        GhostGame g = new GhostGame();
        Probe.due("no game", g.players(), 0);
        for (int n = 2; n <= 4; n++) {
            g.start(n);
            Probe.due("of " + n, g.players(), n);
        }
        Probe.rounds(g, 5, "z", 0);
        Probe.due("one is out", g.players(), 4);
        Probe.playUntilOver(g);
        Probe.due("over", g.players(), 2);
    }

    private static void strikes() {
        Probe.promise("20 strikes");
        GhostGame g = new GhostGame();
        Probe.throwsIt("no game", g, Probe.INDEX, () -> g.strikes(0));
        g.start(2);
        Probe.throwsIt("2 of two", g, Probe.INDEX, () -> g.strikes(2));
        Probe.throwsIt("-1", g, Probe.INDEX, () -> g.strikes(-1));
        Probe.throwsIt("least int", g, Probe.INDEX, () -> g.strikes(Integer.MIN_VALUE));
        Probe.throwsIt("greatest int", g, Probe.INDEX, () -> g.strikes(Integer.MAX_VALUE));
        for (int i = 0; i < 5; i++) {
            Probe.due("so far", g.strikes(0), i);
            Probe.due("the other", g.strikes(1), 0);
            Probe.rounds(g, 1, "z", 0);
        }
        Probe.due("out", g.strikes(0), 5);
        Probe.throwsIt("over: 2 of two", g, Probe.INDEX, () -> g.strikes(2));
        g.start(4);
        Probe.due("anew", g.strikes(0), 0);
        Probe.rounds(g, 1, "zzzz", 3);
        Probe.due("the last of four", g.strikes(3), 1);
        Probe.throwsIt("4 of four", g, Probe.INDEX, () -> g.strikes(4));
        g.start(3);
        Probe.throwsIt("3 of three", g, Probe.INDEX, () -> g.strikes(3));
        g.start(4);
        Probe.due("the old strike is gone", g.strikes(3), 0);
    }

    private static void fragmentLength() {
        Probe.promise("21 fragmentLength");
        GhostGame g = Probe.gameWith("abc");
        Probe.due("no game, though there is a slip", g.fragmentLength(), 0);
        g.start(2);
        Probe.due("at first", g.fragmentLength(), 0);
        for (int i = 1; i <= 10; i++) {
            g.play(25);
            Probe.due("after " + i, g.fragmentLength(), i);
        }
        g.challenge();
        Probe.due("a new round", g.fragmentLength(), 0);
        g.play(0);
        g.start(2);
        Probe.due("a new game", g.fragmentLength(), 0);
        Probe.playUntilOver(g);
        Probe.due("over by a challenge", g.fragmentLength(), 0);
        g.start(2);
        for (int i = 0; i < 5; i++) {
            Probe.letters(g, "abc");
            Probe.due("behind a word", g.fragmentLength(), 0);
        }
        Probe.due("over by a word", g.winner(), 1);
    }

    private static void fragmentAt() {
        Probe.promise("22 fragmentAt");
        GhostGame g = Probe.gameWith("abc");
        Probe.throwsIt("no game, though there is a slip", g, Probe.INDEX, () -> g.fragmentAt(0));
        g.start(2);
        Probe.throwsIt("empty", g, Probe.INDEX, () -> g.fragmentAt(0));
        Probe.letters(g, "caz");
        Probe.due("first", g.fragmentAt(0), 2);
        Probe.due("second", g.fragmentAt(1), 0);
        Probe.due("last", g.fragmentAt(2), 25);
        Probe.throwsIt("behind", g, Probe.INDEX, () -> g.fragmentAt(3));
        Probe.throwsIt("before", g, Probe.INDEX, () -> g.fragmentAt(-1));
        Probe.throwsIt("least int", g, Probe.INDEX, () -> g.fragmentAt(Integer.MIN_VALUE));
        Probe.throwsIt("greatest int", g, Probe.INDEX, () -> g.fragmentAt(Integer.MAX_VALUE));
        Probe.letters(g, "defghij");
        Probe.due("tenth", g.fragmentAt(9), 9);
        Probe.throwsIt("eleventh", g, Probe.INDEX, () -> g.fragmentAt(10));
        g.challenge();
        Probe.throwsIt("a new round", g, Probe.INDEX, () -> g.fragmentAt(0));
        Probe.playUntilOver(g);
        Probe.throwsIt("over", g, Probe.INDEX, () -> g.fragmentAt(0));
    }
}
