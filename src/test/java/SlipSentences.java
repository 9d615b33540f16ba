/** Promises 1 to 13: a new object, the slip and the dictionary. */
final class SlipSentences {
    private static final int LEAST = Integer.MIN_VALUE;
    private static final int GREATEST = Integer.MAX_VALUE;

    private SlipSentences() {
    }

    @Section("Promise 1: A new object")
    static final class NewObject {
        @Sentence("Creates an empty dictionary and an empty slip; there is no game.")
        static void everythingIsEmpty() {
            GhostGame g = new GhostGame();
            Probe.due("words", g.words(), 0);
            Probe.due("slip", g.slipLength(), 0);
            Probe.due("game", Probe.game(g), "turn -1 winner -1 strikes [] fragment ");
            Probe.due("players", g.players(), 0);
            Probe.due("least length", g.setLeastLength(2), 3);
            GhostGame other = new GhostGame();
            Probe.add(g, "abc");
            g.start(2);
            Probe.due("objects are apart", Probe.state(other),
                    " least 3 words 0 1 false 0 turn -1 winner -1 strikes [] fragment "
                    + " open {} winning {} canWin true end 0 best -1 ways 0 won 0");
        }
    }

    @Section("Promise 2: write")
    static final class Write {
        @Sentence("Writes a letter on the slip, behind the others.")
        static void behindTheOthers() {
            GhostGame g = new GhostGame();
            g.write(2);
            Probe.due("on an empty slip", Probe.slip(g), "c");
            g.write(0);
            g.write(25);
            g.write(0);
            Probe.due("behind others", Probe.slip(g), "caza");
            Probe.spell(g, "abcdefghi");
            g.write(25);
            Probe.due("behind nine", Probe.slip(g), "abcdefghiz");
            Probe.add(g, "bcd");
            g.copyWord(0);
            g.write(0);
            Probe.due("behind a word that was copied", Probe.slip(g), "bcda");
            g.copyWord(0);
            Probe.due("the word is as before", Probe.slip(g), "bcd");
        }

        @Sentence("`letter`: 0 to 25")
        static void leastAndGreatestLetter() {
            GhostGame g = new GhostGame();
            Probe.due("0", g.write(0), 1);
            Probe.due("25", g.write(25), 2);
            Probe.due("slip", Probe.slip(g), "az");
            GhostGame all = new GhostGame();
            for (int letter = 0; letter < 26; letter++) {
                all.write(letter);
                Probe.due("letter " + letter, all.slipAt(0), letter);
                all.wipe();
            }
        }

        @Sentence("Returns how many letters the slip has then.")
        static void oneToTen() {
            GhostGame g = new GhostGame();
            for (int i = 1; i <= 10; i++) {
                Probe.due("letter " + i, g.write(0), i);
            }
            g.wipe();
            Probe.due("wiped before", g.write(0), 1);
        }

        @Sentence("Throws `IllegalArgumentException` if letter is out of range")
        static void letterOutOfRange() {
            GhostGame g = new GhostGame();
            Probe.throwsWith(g, Probe.ARGUMENT, g::write, -1, 26, 31, 32, LEAST, GREATEST);
            Probe.spell(g, "abcdefghi");
            Probe.throwsWith(g, Probe.ARGUMENT, g::write, -1, 26, 31, 32, LEAST, GREATEST);
            g.write(0);
            Probe.throwsWith(g, Probe.ARGUMENT, g::write, -1, 26, 31, 32, LEAST, GREATEST);
        }

        @Sentence("Throws `IllegalStateException` if it has 10")
        static void anEleventhLetter() {
            GhostGame g = new GhostGame();
            Probe.spell(g, "abcdefghi");
            Probe.due("the tenth", g.write(25), 10);
            Probe.throwsWith(g, Probe.STATE, g::write, 0, 25);
            g.addWord();
            g.wipe();
            g.copyWord(0);
            Probe.throwsWith(g, Probe.STATE, g::write, 0, 25);
            g.wipe();
            Probe.due("wiped before", g.write(25), 1);
        }
    }

    @Section("Promise 3: wipe")
    static final class Wipe {
        @Sentence("Wipes the slip.")
        static void theSlipAlone() {
            GhostGame g = new GhostGame();
            g.wipe();
            Probe.due("an empty slip", Probe.slip(g), "");
            Probe.add(g, "abc");
            Probe.startWith(g, "ab");
            g.wipe();
            Probe.due("three letters", Probe.slip(g), "");
            Probe.due("the words stay", g.words(), 1);
            Probe.due("the fragment stays", Probe.fragment(g), "ab");
            Probe.spell(g, "zzzzzzzzzz");
            g.wipe();
            Probe.due("a full slip", Probe.slip(g), "");
            g.write(7);
            Probe.due("nothing comes back", Probe.slip(g), "h");
        }

        @Sentence("Returns how many letters it had.")
        static void noneToTen() {
            GhostGame g = new GhostGame();
            Probe.due("an empty slip", g.wipe(), 0);
            Probe.spell(g, "a");
            Probe.due("one", g.wipe(), 1);
            Probe.due("twice", g.wipe(), 0);
            Probe.spell(g, "zzzzzzzzzz");
            Probe.due("a full slip", g.wipe(), 10);
        }
    }

    @Section("Promise 4: slipLength")
    static final class SlipLength {
        @Sentence("Returns how many letters the slip has.")
        static void noneToTen() {
            GhostGame g = new GhostGame();
            Probe.due("empty", g.slipLength(), 0);
            for (int i = 1; i <= 10; i++) {
                g.write(i % 2 * 25);
                Probe.due("after " + i, g.slipLength(), i);
            }
            Probe.thrownBy(() -> g.write(0));
            Probe.due("after a letter too many", g.slipLength(), 10);
            g.wipe();
            Probe.due("wiped", g.slipLength(), 0);
            Probe.startWith(g, "ab");
            Probe.due("the fragment is another row", g.slipLength(), 0);
        }
    }

    @Section("Promise 5: slipAt")
    static final class SlipAt {
        @Sentence("Returns a letter of the slip.")
        static void eachOfTen() {
            GhostGame g = new GhostGame();
            Probe.spell(g, "zazbcdefya");
            int[] letters = {25, 0, 25, 1, 2, 3, 4, 5, 24, 0};
            for (int place = 0; place < 10; place++) {
                Probe.due("place " + place, g.slipAt(place), letters[place]);
            }
        }

        @Sentence("`place`: from 0")
        static void theFirstAndTheLast() {
            GhostGame g = new GhostGame();
            g.write(5);
            Probe.due("the only one", g.slipAt(0), 5);
            g.write(0);
            Probe.due("the first", g.slipAt(0), 5);
            Probe.due("the last", g.slipAt(1), 0);
        }

        @Sentence("Throws `IndexOutOfBoundsException` if it has no such letter")
        static void noSuchLetter() {
            GhostGame g = new GhostGame();
            Probe.startWith(g, "abc");
            Probe.throwsWith(g, Probe.INDEX, g::slipAt, 0, -1, 1);
            Probe.spell(g, "ab");
            Probe.throwsWith(g, Probe.INDEX, g::slipAt, -1, 2, 3, LEAST, GREATEST);
            Probe.spell(g, "zzzzzzzzzz");
            Probe.throwsWith(g, Probe.INDEX, g::slipAt, -1, 10, 11, LEAST, GREATEST);
            g.wipe();
            Probe.throwsWith(g, Probe.INDEX, g::slipAt, 0, 9);
        }
    }

    @Section("Promise 6: addWord")
    static final class AddWord {
        @Sentence("Adds the word on the slip to the dictionary; the slip stays as it is.")
        static void shortestAndLongest() {
            GhostGame g = new GhostGame();
            Probe.spell(g, "ab");
            g.addWord();
            Probe.due("the slip after two letters", Probe.slip(g), "ab");
            Probe.due("two letters, though they do not count", g.isWord(), true);
            g.write(0);
            g.addWord();
            Probe.spell(g, "zyxwvutsrz");
            g.addWord();
            Probe.due("the slip after ten letters", Probe.slip(g), "zyxwvutsrz");
            Probe.due("ten letters", g.isWord(), true);
            Probe.due("all of them", Probe.wordList(g), "ab aba zyxwvutsrz");
        }

        @Sentence("Returns how many words there are then.")
        static void oneToFifty() {
            GhostGame g = new GhostGame();
            for (int i = 0; i < 50; i++) {
                g.wipe();
                g.write(i % 10);
                g.write(i / 10);
                Probe.due("word " + i, g.addWord(), i + 1);
            }
            g.removeWord();
            Probe.due("removed before", g.addWord(), 50);
        }

        @Sentence("Throws `IllegalArgumentException` if the slip has less than 2 letters")
        static void noneOrOneLetter() {
            GhostGame g = new GhostGame();
            Probe.throwsIt("an empty slip", g, Probe.ARGUMENT, g::addWord);
            Probe.spell(g, "a");
            Probe.throwsIt("the letter 0", g, Probe.ARGUMENT, g::addWord);
            Probe.spell(g, "z");
            Probe.throwsIt("the letter 25", g, Probe.ARGUMENT, g::addWord);
            g.write(0);
            Probe.due("two letters", g.addWord(), 1);
        }

        @Sentence("Throws `IllegalStateException` if there are 50 words, or the dictionary has this "
                + "word")
        static void fiftyWordsOrThisOne() {
            GhostGame g = new GhostGame();
            Probe.addPairs(g, 49);
            Probe.throwsIt("the last of 49 again", g, Probe.STATE, g::addWord);
            Probe.spell(g, "az");
            Probe.due("thrown for the first of 49", Probe.thrownBy(g::addWord), Probe.STATE);
            Probe.spell(g, "zz");
            Probe.due("the fiftieth", g.addWord(), 50);
            Probe.due("thrown for the fiftieth again", Probe.thrownBy(g::addWord), Probe.STATE);
            g.write(0);
            Probe.throwsIt("another one", g, Probe.STATE, g::addWord);
            Probe.remove(g, "az");
            Probe.due("room again", g.addWord(), 50);
        }
    }

    @Section("Promise 7: removeWord")
    static final class RemoveWord {
        @Sentence("Removes the word on the slip from the dictionary; the slip stays as it is.")
        static void firstLastAndOnlyWord() {
            GhostGame g = Probe.gameWith("ab abc abd zzzzzzzzzz");
            Probe.spell(g, "abc");
            g.removeWord();
            Probe.due("the slip after one in the middle", Probe.slip(g), "abc");
            Probe.due("without it", Probe.wordList(g), "ab abd zzzzzzzzzz");
            Probe.remove(g, "zzzzzzzzzz");
            Probe.due("the slip after the last", Probe.slip(g), "zzzzzzzzzz");
            Probe.due("without the last", Probe.wordList(g), "ab abd");
            Probe.remove(g, "ab");
            Probe.due("the slip after the first", Probe.slip(g), "ab");
            Probe.due("without the first", Probe.wordList(g), "abd");
            Probe.remove(g, "abd");
            Probe.due("without the only one", Probe.wordList(g), "");
            Probe.due("its beginnings are gone", g.beginnings(), 1);
        }

        @Sentence("Returns how many words there are then.")
        static void fortyNineToNone() {
            GhostGame g = new GhostGame();
            Probe.addPairs(g, 50);
            for (int left = 49; left >= 0; left--) {
                g.copyWord(left / 2);
                Probe.due("left", g.removeWord(), left);
            }
        }

        @Sentence("Throws `IllegalStateException` if the dictionary does not have it")
        static void noSuchWord() {
            GhostGame g = new GhostGame();
            Probe.throwsIt("an empty slip, no words", g, Probe.STATE, g::removeWord);
            Probe.spell(g, "abc");
            Probe.throwsIt("no words", g, Probe.STATE, g::removeWord);
            g.addWord();
            g.wipe();
            Probe.throwsIt("an empty slip", g, Probe.STATE, g::removeWord);
            Probe.spell(g, "ab");
            Probe.throwsIt("a beginning", g, Probe.STATE, g::removeWord);
            Probe.spell(g, "abcd");
            Probe.throwsIt("longer than the word", g, Probe.STATE, g::removeWord);
            Probe.spell(g, "abd");
            Probe.throwsIt("another one", g, Probe.STATE, g::removeWord);
            Probe.remove(g, "abc");
            Probe.throwsIt("removed before", g, Probe.STATE, g::removeWord);
        }
    }

    @Section("Promise 8: isWord")
    static final class IsWord {
        @Sentence("Tells whether the slip is a word of the dictionary.")
        static void justTheWord() {
            GhostGame g = new GhostGame();
            Probe.due("an empty slip without words", g.isWord(), false);
            Probe.add(g, "abc");
            Probe.due("the word", g.isWord(), true);
            g.write(0);
            Probe.due("longer", g.isWord(), false);
            Probe.spell(g, "ab");
            Probe.due("a beginning", g.isWord(), false);
            g.addWord();
            Probe.due("a word that does not count", g.isWord(), true);
            Probe.spell(g, "abd");
            Probe.due("another", g.isWord(), false);
            Probe.remove(g, "abc");
            Probe.due("removed", g.isWord(), false);
            g.wipe();
            Probe.due("an empty slip", g.isWord(), false);
            GhostGame full = new GhostGame();
            Probe.addPairs(full, 50);
            Probe.due("the one added last", full.isWord(), true);
            Probe.spell(full, "ez");
            Probe.due("the last of 50", full.isWord(), true);
            Probe.spell(full, "aq");
            Probe.due("the first of 50", full.isWord(), true);
            Probe.spell(full, "ap");
            Probe.due("none of 50", full.isWord(), false);
        }
    }

    @Section("Promise 9: words")
    static final class Words {
        @Sentence("Returns how many words there are.")
        static void noneToFifty() {
            GhostGame g = new GhostGame();
            Probe.due("none", g.words(), 0);
            Probe.addPairs(g, 1);
            Probe.due("one, though it does not count", g.words(), 1);
            Probe.remove(g, "az");
            Probe.due("none again", g.words(), 0);
            Probe.addPairs(g, 50);
            Probe.due("fifty", g.words(), 50);
            Probe.thrownBy(g::addWord);
            Probe.due("after a word too many", g.words(), 50);
            g.setLeastLength(10);
            Probe.due("whatever the least length", g.words(), 50);
        }
    }

    @Section("Promise 10: wordsFromSlip")
    static final class WordsFromSlip {
        @Sentence("Returns how many words begin with the slip, or are it.")
        static void fromEmptyToFull() {
            GhostGame g = new GhostGame();
            Probe.due("no words", g.wordsFromSlip(), 0);
            Probe.add(g, "ab abc abd bb zzzzzzzzzz zzzzzzzzza");
            Probe.due("a full slip", g.wordsFromSlip(), 1);
            g.wipe();
            Probe.due("an empty slip", g.wordsFromSlip(), 6);
            dueFrom(g, "a", 3);
            dueFrom(g, "ab", 3);
            dueFrom(g, "abc", 1);
            dueFrom(g, "abca", 0);
            dueFrom(g, "ba", 0);
            dueFrom(g, "zzzzzzzzz", 2);
            g.setLeastLength(10);
            dueFrom(g, "a", 3);
            GhostGame full = new GhostGame();
            Probe.addPairs(full, 50);
            dueFrom(full, "", 50);
            dueFrom(full, "e", 10);
            dueFrom(full, "f", 0);
        }

        private static void dueFrom(GhostGame g, String slip, int words) {
            Probe.spell(g, slip);
            Probe.due(slip, g.wordsFromSlip(), words);
        }
    }

    @Section("Promise 11: beginnings")
    static final class Beginnings {
        @Sentence("Returns how many different beginnings the words have: the empty one (it is there "
                + "without words, too), the words themselves, and all between.")
        static void fromTheEmptyOneToTheWords() {
            GhostGame g = new GhostGame();
            Probe.due("the empty one", g.beginnings(), 1);
            Probe.add(g, "ab");
            Probe.due("and a, ab", g.beginnings(), 3);
            Probe.add(g, "abcd");
            Probe.due("and abc, abcd", g.beginnings(), 5);
            Probe.add(g, "abc");
            Probe.due("nothing new", g.beginnings(), 5);
            Probe.add(g, "bab");
            Probe.due("and b, ba, bab", g.beginnings(), 8);
            Probe.add(g, "abd");
            Probe.due("and abd", g.beginnings(), 9);
            Probe.add(g, "zabcabcabc");
            Probe.due("and ten", g.beginnings(), 19);
            Probe.remove(g, "ab");
            Probe.due("ab begins others", g.beginnings(), 19);
            Probe.remove(g, "abcd");
            Probe.due("less abcd", g.beginnings(), 18);
            g.setLeastLength(10);
            Probe.due("whatever the least length", g.beginnings(), 18);
            Probe.remove(g, "abc bab abd zabcabcabc");
            Probe.due("the empty one again", g.beginnings(), 1);
            Probe.due("a, aa, aaa", Probe.gameWith("aa aaa").beginnings(), 4);
            GhostGame full = new GhostGame();
            Probe.addPairs(full, 50);
            Probe.due("the empty one, five letters and 50 words", full.beginnings(), 56);
        }
    }

    @Section("Promise 12: copyWord")
    static final class CopyWord {
        @Sentence("Copies a word of the dictionary to the slip.")
        static void inPlaceOfWhatWasThere() {
            GhostGame g = Probe.gameWith("zyxwvutsrq ab");
            g.wipe();
            g.copyWord(0);
            Probe.due("to an empty slip", Probe.slip(g), "ab");
            g.copyWord(1);
            Probe.due("to a shorter one", Probe.slip(g), "zyxwvutsrq");
            g.copyWord(0);
            Probe.due("to a full one", Probe.slip(g), "ab");
            Probe.due("the word stays", g.isWord(), true);
        }

        @Sentence("`number`: 0 for the first one in the order of words")
        static void firstAndLastInOrder() {
            GhostGame g = Probe.gameWith("zzz baa ab za az");
            g.copyWord(0);
            Probe.due("the first", Probe.slip(g), "ab");
            g.copyWord(4);
            Probe.due("the last", Probe.slip(g), "zzz");
            Probe.due("all of them", Probe.wordList(g), "ab az za baa zzz");
            GhostGame full = new GhostGame();
            Probe.addPairs(full, 50);
            full.copyWord(0);
            Probe.due("the first of 50", Probe.slip(full), "aq");
            full.copyWord(49);
            Probe.due("the last of 50", Probe.slip(full), "ez");
        }

        @Sentence("Returns how many letters it has.")
        static void twoToTen() {
            GhostGame g = new GhostGame();
            for (int length = 2; length <= 10; length++) {
                Probe.add(g, "abcdefghij".substring(0, length));
            }
            for (int number = 0; number < 9; number++) {
                Probe.due("word " + number, g.copyWord(number), number + 2);
            }
        }

        @Sentence("Throws `IndexOutOfBoundsException` if there is no such word")
        static void noSuchWord() {
            GhostGame g = new GhostGame();
            Probe.spell(g, "xyz");
            Probe.throwsWith(g, Probe.INDEX, g::copyWord, 0, -1, 1, LEAST, GREATEST);
            Probe.add(g, "ab bcd");
            Probe.throwsWith(g, Probe.INDEX, g::copyWord, -1, 2, 49, 50, LEAST, GREATEST);
            Probe.remove(g, "ab");
            Probe.throwsWith(g, Probe.INDEX, g::copyWord, 1);
            Probe.remove(g, "bcd");
            Probe.throwsWith(g, Probe.INDEX, g::copyWord, 0);
            GhostGame full = new GhostGame();
            Probe.addPairs(full, 50);
            Probe.throwsWith(full, Probe.INDEX, full::copyWord, -1, 50, 51, LEAST, GREATEST);
        }
    }

    @Section("Promise 13: setLeastLength")
    static final class SetLeastLength {
        @Sentence("Changes the least length.")
        static void whatCountsThen() {
            GhostGame g = Probe.gameWith("abcd");
            Probe.due("four letters", g.openLetters(), 1);
            g.setLeastLength(5);
            Probe.due("they count no longer", g.openLetters(), 0);
            g.setLeastLength(4);
            Probe.due("they count again", g.openLetters(), 1);
            Probe.startWith(g, "abc");
            g.setLeastLength(5);
            Probe.due("during a round", Probe.letters(g, "d"), GhostGame.NONE);
            g.start(2);
            Probe.due("a new game keeps it", Probe.letters(g, "abcd"), GhostGame.NONE);
            g.start(2);
            g.setLeastLength(4);
            Probe.due("four letters in the game", Probe.letters(g, "abcd"), 1);
        }

        @Sentence("`letters`: 2 to 10")
        static void leastAndGreatest() {
            GhostGame g = Probe.gameWith("ab zzzzzzzzzz");
            g.setLeastLength(2);
            Probe.due("2", Probe.lettersIn(g.openLetters()), "{az}");
            g.setLeastLength(10);
            Probe.due("10", Probe.lettersIn(g.openLetters()), "{z}");
            for (int letters = 2; letters <= 10; letters++) {
                g.setLeastLength(letters);
                Probe.due("as it was changed", g.setLeastLength(letters), letters);
            }
        }

        @Sentence("Returns the least length before.")
        static void atFirstAndLater() {
            GhostGame g = new GhostGame();
            Probe.due("at first", g.setLeastLength(10), 3);
            Probe.due("the greatest", g.setLeastLength(2), 10);
            Probe.due("the least", g.setLeastLength(2), 2);
            Probe.due("the same again", g.setLeastLength(5), 2);
            g.start(2);
            Probe.due("in a game", g.setLeastLength(3), 5);
        }

        @Sentence("Throws `IllegalArgumentException` if letters is out of range")
        static void tooFewOrTooMany() {
            GhostGame g = Probe.gameWith("ab abc");
            Probe.throwsWith(g, Probe.ARGUMENT, g::setLeastLength, 1, 11, 0, -1, LEAST, GREATEST);
            g.setLeastLength(10);
            Probe.throwsWith(g, Probe.ARGUMENT, g::setLeastLength, 1, 11, 0, -1, LEAST, GREATEST);
            Probe.due("as before", g.setLeastLength(2), 10);
        }
    }
}
