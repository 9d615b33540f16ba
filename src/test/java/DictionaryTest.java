/** Promises 1 to 13: a new object, the slip and the dictionary. */
public final class DictionaryTest {
    public static void main(String[] args) {
        newObject();
        write();
        wipe();
        slipLength();
        slipAt();
        addWord();
        addWordUpToFifty();
        removeWord();
        isWord();
        words();
        wordsFromSlip();
        beginnings();
        copyWord();
        orderOfWords();
        setLeastLength();
        Probe.finish("DictionaryTest");
    }

    private static void newObject() {
        Probe.promise("1 new object");
        GhostGame g = new GhostGame();
        Probe.due("words", g.words(), 0);
        Probe.due("slip", Probe.slip(g), "");
        Probe.due("the empty slip is no word", g.isWord(), false);
        Probe.due("no game", Probe.game(g), "turn -1 winner -1 strikes [] fragment ");
        Probe.due("players", g.players(), 0);
        Probe.due("least length", g.setLeastLength(2), 3);
        Probe.due("NONE", GhostGame.NONE, -1);
        GhostGame other = new GhostGame();
        Probe.add(g, "abc");
        g.start(2);
        Probe.due("objects are apart", Probe.state(other),
                " least 3 words 0 1 false 0 turn -1 winner -1 strikes [] fragment "
                + " open {} winning {} canWin true end 0 best -1 ways 0 won 0");
    }

    private static void write() {
        Probe.promise("2 write");
        GhostGame g = new GhostGame();
        Probe.due("the least letter", g.write(0), 1);
        Probe.due("the greatest letter", g.write(25), 2);
        Probe.due("slip", Probe.slip(g), "az");
        Probe.throwsIt("-1", g, Probe.ARGUMENT, () -> g.write(-1));
        Probe.throwsIt("26", g, Probe.ARGUMENT, () -> g.write(26));
        Probe.throwsIt("32", g, Probe.ARGUMENT, () -> g.write(32));
        Probe.throwsIt("least int", g, Probe.ARGUMENT, () -> g.write(Integer.MIN_VALUE));
        Probe.throwsIt("greatest int", g, Probe.ARGUMENT, () -> g.write(Integer.MAX_VALUE));
        for (int i = 3; i <= 10; i++) {
            Probe.due("letter " + i, g.write(i), i);
        }
        Probe.due("ten letters", Probe.slip(g), "azdefghijk");
        Probe.throwsIt("an eleventh", g, Probe.STATE, () -> g.write(5));
        Probe.throwsIt("an eleventh, out of range", g, Probe.ARGUMENT, () -> g.write(26));
        g.wipe();
        Probe.due("again", g.write(7), 1);
        Probe.due("slip again", Probe.slip(g), "h");
    }

    private static void wipe() {
        Probe.promise("3 wipe");
        GhostGame g = new GhostGame();
        Probe.due("empty", g.wipe(), 0);
        Probe.spell(g, "abc");
        Probe.due("three", g.wipe(), 3);
        Probe.due("slip", Probe.slip(g), "");
        Probe.due("twice", g.wipe(), 0);
        Probe.spell(g, "zzzzzzzzzz");
        Probe.due("ten", g.wipe(), 10);
        Probe.add(g, "abc");
        Probe.startWith(g, "ab");
        g.wipe();
        Probe.due("the words stay", g.words(), 1);
        Probe.due("the fragment stays", Probe.fragment(g), "ab");
    }

    private static void slipLength() {
        Probe.promise("4 slipLength");
        GhostGame g = new GhostGame();
        Probe.due("empty", g.slipLength(), 0);
        for (int i = 1; i <= 10; i++) {
            g.write(25);
            Probe.due("after " + i, g.slipLength(), i);
        }
        g.wipe();
        Probe.due("wiped", g.slipLength(), 0);
        g.start(2);
        g.play(0);
        Probe.due("the fragment is another row", g.slipLength(), 0);
    }

    private static void slipAt() {
        Probe.promise("5 slipAt");
        GhostGame g = new GhostGame();
        Probe.throwsIt("empty", g, Probe.INDEX, () -> g.slipAt(0));
        Probe.spell(g, "cazb");
        Probe.due("first", g.slipAt(0), 2);
        Probe.due("second", g.slipAt(1), 0);
        Probe.due("third", g.slipAt(2), 25);
        Probe.due("last", g.slipAt(3), 1);
        Probe.throwsIt("behind", g, Probe.INDEX, () -> g.slipAt(4));
        Probe.throwsIt("before", g, Probe.INDEX, () -> g.slipAt(-1));
        Probe.throwsIt("least int", g, Probe.INDEX, () -> g.slipAt(Integer.MIN_VALUE));
        Probe.throwsIt("greatest int", g, Probe.INDEX, () -> g.slipAt(Integer.MAX_VALUE));
        Probe.spell(g, "abcdefghij");
        Probe.due("first of ten", g.slipAt(0), 0);
        Probe.due("last of ten", g.slipAt(9), 9);
        Probe.throwsIt("behind ten", g, Probe.INDEX, () -> g.slipAt(10));
    }

    private static void addWord() {
        Probe.promise("6 addWord");
        GhostGame g = new GhostGame();
        Probe.throwsIt("empty slip", g, Probe.ARGUMENT, () -> g.addWord());
        Probe.spell(g, "a");
        Probe.throwsIt("one letter", g, Probe.ARGUMENT, () -> g.addWord());
        Probe.spell(g, "ab");
        Probe.due("two letters, though they do not count", g.addWord(), 1);
        Probe.due("the slip stays", Probe.slip(g), "ab");
        Probe.throwsIt("twice", g, Probe.STATE, () -> g.addWord());
        Probe.spell(g, "aba");
        Probe.due("a longer one", g.addWord(), 2);
        Probe.spell(g, "ba");
        Probe.due("the letters turned", g.addWord(), 3);
        Probe.spell(g, "aa");
        Probe.due("only the letter 0", g.addWord(), 4);
        Probe.spell(g, "aaa");
        Probe.due("the letter 0 once more", g.addWord(), 5);
        Probe.throwsIt("this one twice", g, Probe.STATE, () -> g.addWord());
        Probe.spell(g, "zzzzzzzzzz");
        Probe.due("ten letters", g.addWord(), 6);
        Probe.due("all", Probe.wordList(g), "aa ab ba aaa aba zzzzzzzzzz");
        Probe.remove(g, "ab");
        Probe.due("added again", g.addWord(), 6);
    }

    private static void addWordUpToFifty() {
        Probe.promise("6 addWord, 50 words");
        GhostGame g = new GhostGame();
        for (int i = 0; i < 50; i++) {
            g.wipe();
            g.write(i / 10);
            g.write(25 - i % 10);
            Probe.due("word " + i, g.addWord(), i + 1);
        }
        Probe.throwsIt("the last one again", g, Probe.STATE, () -> g.addWord());
        Probe.spell(g, "zz");
        Probe.throwsIt("another one", g, Probe.STATE, () -> g.addWord());
        Probe.spell(g, "z");
        Probe.throwsIt("one letter", g, Probe.ARGUMENT, () -> g.addWord());
        Probe.due("words", g.words(), 50);
        Probe.due("beginnings", g.beginnings(), 56);
        Probe.remove(g, "az");
        Probe.due("one less", g.words(), 49);
        Probe.spell(g, "zz");
        Probe.due("room again", g.addWord(), 50);
        Probe.due("the last one", g.copyWord(49), 2);
        Probe.due("it is", Probe.slip(g), "zz");
        Probe.throwsIt("no word behind it", g, Probe.INDEX, () -> g.copyWord(50));
    }

    private static void removeWord() {
        Probe.promise("7 removeWord");
        GhostGame g = new GhostGame();
        Probe.throwsIt("empty slip", g, Probe.STATE, () -> g.removeWord());
        Probe.add(g, "abc ab abd");
        Probe.spell(g, "a");
        Probe.throwsIt("a beginning", g, Probe.STATE, () -> g.removeWord());
        Probe.spell(g, "abcd");
        Probe.throwsIt("longer than a word", g, Probe.STATE, () -> g.removeWord());
        Probe.spell(g, "abc");
        Probe.due("one in the middle", g.removeWord(), 2);
        Probe.due("the slip stays", Probe.slip(g), "abc");
        Probe.throwsIt("twice", g, Probe.STATE, () -> g.removeWord());
        Probe.due("left", Probe.wordList(g), "ab abd");
        Probe.spell(g, "ab");
        Probe.due("the first, which does not count", g.removeWord(), 1);
        Probe.spell(g, "abd");
        Probe.due("the last", g.removeWord(), 0);
        Probe.due("none left", Probe.wordList(g), "");
    }

    private static void isWord() {
        Probe.promise("8 isWord");
        GhostGame g = Probe.gameWith("abc");
        Probe.due("the word", g.isWord(), true);
        Probe.spell(g, "ab");
        Probe.due("a beginning", g.isWord(), false);
        g.addWord();
        Probe.due("a word that does not count", g.isWord(), true);
        Probe.spell(g, "abcd");
        Probe.due("longer", g.isWord(), false);
        Probe.spell(g, "abd");
        Probe.due("another", g.isWord(), false);
        Probe.remove(g, "abc");
        Probe.due("removed", g.isWord(), false);
        g.wipe();
        Probe.due("the empty slip", g.isWord(), false);
    }

    private static void words() {
        Probe.promise("9 words");
        GhostGame g = new GhostGame();
        Probe.due("none", g.words(), 0);
        Probe.add(g, "ab");
        Probe.due("one that does not count", g.words(), 1);
        Probe.add(g, "abc");
        Probe.due("two", g.words(), 2);
        g.setLeastLength(10);
        Probe.due("whatever the least length", g.words(), 2);
        Probe.remove(g, "abc");
        Probe.due("one again", g.words(), 1);
    }

    private static void wordsFromSlip() {
        Probe.promise("10 wordsFromSlip");
        GhostGame g = new GhostGame();
        Probe.due("no words", g.wordsFromSlip(), 0);
        Probe.add(g, "ab abc abd bb");
        g.wipe();
        Probe.due("the empty slip", g.wordsFromSlip(), 4);
        Probe.spell(g, "a");
        Probe.due("a", g.wordsFromSlip(), 3);
        Probe.spell(g, "ab");
        Probe.due("ab, with the word itself", g.wordsFromSlip(), 3);
        Probe.spell(g, "abc");
        Probe.due("abc", g.wordsFromSlip(), 1);
        Probe.spell(g, "abca");
        Probe.due("longer than the word", g.wordsFromSlip(), 0);
        Probe.spell(g, "ba");
        Probe.due("ba", g.wordsFromSlip(), 0);
        g.setLeastLength(10);
        Probe.spell(g, "a");
        Probe.due("whatever the least length", g.wordsFromSlip(), 3);
        Probe.add(g, "zzzzzzzzzz zzzzzzzzza");
        Probe.due("ten letters", g.wordsFromSlip(), 1);
        Probe.spell(g, "zzzzzzzzz");
        Probe.due("nine letters", g.wordsFromSlip(), 2);
    }

    private static void beginnings() {
        Probe.promise("11 beginnings");
        GhostGame g = new GhostGame();
        Probe.due("the empty one", g.beginnings(), 1);
        Probe.add(g, "ab");
        Probe.due("and a, ab", g.beginnings(), 3);
        Probe.add(g, "abcd");
        Probe.due("and abc, abcd", g.beginnings(), 5);
        Probe.add(g, "abc");
        Probe.due("nothing new", g.beginnings(), 5);
        Probe.add(g, "bab");
        Probe.due("and b, ba, bab", g.beginnings(), 8);
        Probe.add(g, "abd");
        Probe.due("and abd", g.beginnings(), 9);
        Probe.add(g, "zabcabcabc");
        Probe.due("and ten", g.beginnings(), 19);
        Probe.remove(g, "abcd");
        Probe.due("less abcd", g.beginnings(), 18);
        Probe.remove(g, "ab");
        Probe.due("ab begins others", g.beginnings(), 18);
        g.setLeastLength(10);
        Probe.due("whatever the least length", g.beginnings(), 18);
        Probe.due("a, aa, aaa, aaaa", Probe.gameWith("aa aaa aaaa").beginnings(), 5);
    }

    private static void copyWord() {
        Probe.promise("12 copyWord");
        GhostGame g = new GhostGame();
        Probe.throwsIt("no words", g, Probe.INDEX, () -> g.copyWord(0));
        Probe.add(g, "bcd ab");
        Probe.spell(g, "xyzxyz");
        Probe.due("the first one", g.copyWord(0), 2);
        Probe.due("it is", Probe.slip(g), "ab");
        Probe.due("the second one", g.copyWord(1), 3);
        Probe.due("it is", Probe.slip(g), "bcd");
        Probe.throwsIt("behind", g, Probe.INDEX, () -> g.copyWord(2));
        Probe.throwsIt("before", g, Probe.INDEX, () -> g.copyWord(-1));
        Probe.throwsIt("50", g, Probe.INDEX, () -> g.copyWord(50));
        Probe.throwsIt("least int", g, Probe.INDEX, () -> g.copyWord(Integer.MIN_VALUE));
        Probe.throwsIt("greatest int", g, Probe.INDEX, () -> g.copyWord(Integer.MAX_VALUE));
        Probe.due("the copy can be written on", g.write(0), 4);
        g.copyWord(1);
        Probe.due("the word is as before", Probe.slip(g), "bcd");
        g.removeWord();
        Probe.throwsIt("removed", g, Probe.INDEX, () -> g.copyWord(1));
    }

    private static void orderOfWords() {
        Probe.promise("12 copyWord, the order of words");
        GhostGame g = Probe.gameWith("zz aaaaaaaaaa abc az abb ba acb zzzzzzzzzz zzzzzzzzza aa");
        Probe.due("by length, then alphabet", Probe.wordList(g),
                "aa az ba zz abb abc acb aaaaaaaaaa zzzzzzzzza zzzzzzzzzz");
        Probe.remove(g, "aa ba zzzzzzzzzz");
        Probe.add(g, "ay ab");
        Probe.due("after removals", Probe.wordList(g),
                "ab ay az zz abb abc acb aaaaaaaaaa zzzzzzzzza");
    }

    private static void setLeastLength() {
        Probe.promise("13 setLeastLength");
        GhostGame g = new GhostGame();
        Probe.due("3 at first", g.setLeastLength(2), 3);
        Probe.due("the least", g.setLeastLength(10), 2);
        Probe.due("the greatest", g.setLeastLength(5), 10);
        Probe.throwsIt("1", g, Probe.ARGUMENT, () -> g.setLeastLength(1));
        Probe.throwsIt("11", g, Probe.ARGUMENT, () -> g.setLeastLength(11));
        Probe.throwsIt("least int", g, Probe.ARGUMENT, () -> g.setLeastLength(Integer.MIN_VALUE));
        Probe.throwsIt("greatest int", g, Probe.ARGUMENT,
                () -> g.setLeastLength(Integer.MAX_VALUE));
        Probe.due("as before", g.setLeastLength(5), 5);
        Probe.add(g, "abcd");
        Probe.due("four letters do not count", g.openLetters(), 0);
        g.setLeastLength(4);
        Probe.due("four letters count", g.openLetters(), 1);
        Probe.startWith(g, "abc");
        g.setLeastLength(5);
        Probe.due("of no effect in the game", Probe.letters(g, "d"), GhostGame.NONE);
        g.start(2);
        Probe.due("a new game keeps it", g.setLeastLength(4), 5);
        Probe.due("four letters in the game", Probe.letters(g, "abcd"), 1);
    }
}
