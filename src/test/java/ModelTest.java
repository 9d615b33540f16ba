/**
 * All promises: runs of 512 calls, each answer compared with the Model's. The runs come from a
 * counter alone, so they are the same every time.
 */
public final class ModelTest {
    private static final int RUNS = 240;
    private static final int CALLS = 512;

    private static long seed;

    private interface Answer {
        long get();
    }

    public static void main(String[] args) {
        for (int run = 0; run < RUNS; run++) {
            seed = run * 7919L + 1;
            compare(run);
        }
        Probe.finish("ModelTest");
    }

    private static void compare(int run) {
        GhostGame g = new GhostGame();
        Model m = new Model();
        int letters = new int[] {2, 3, 4, 26}[run % 4];
        int manner = run / 4 % 4;
        StringBuilder calls = new StringBuilder();
        for (int i = 0; i < CALLS; i++) {
            int call = chooseCall(manner, i);
            int argument = chooseArgument(call, letters);
            calls.append(call).append('(').append(argument).append(") ");
            String got = told(() -> onGame(g, call, argument));
            String want = told(() -> onModel(m, call, argument));
            if (!got.equals(want)) {
                Probe.promise("run " + run + ", calls " + calls);
                Probe.due("the last one", got, want);
                return;
            }
        }
    }

    /** Manner 0: all calls alike; 1: many words first; 2: many rounds; 3: a few words, then asked. */
    private static int chooseCall(int manner, int done) {
        boolean early = done < CALLS * 2 / 3;
        int roll = next(100);
        if (manner == 1 && early && roll < 90) {
            return roll < 55 ? 2 : roll < 64 ? 3 : roll < 87 ? 6 : 12;
        }
        if (manner == 2 && roll < 70 && done > 40) {
            return roll < 45 ? 15 : 16;
        }
        if (manner == 3 && roll < 60) {
            return done < CALLS / 3 ? (roll < 34 ? 2 : roll < 42 ? 3 : 6) : 23 + roll % 7;
        }
        return done == 0 ? 14 : rare(anyCall());
    }

    /** A new game or another least length all the time would keep everything else from growing. */
    private static int rare(int call) {
        return (call == 13 || call == 14) && next(4) != 0 ? anyCall() : call;
    }

    /** By the number of its promise, and 1 is the new object. */
    private static int anyCall() {
        return 2 + next(28);
    }

    private static int chooseArgument(int call, int letters) {
        if (next(25) == 0) {
            int[] odd = {-1, 26, 10, 11, 5, 50, 1, 0, Integer.MIN_VALUE, Integer.MAX_VALUE};
            return odd[next(odd.length)];
        }
        switch (call) {
            case 2:
            case 15:
                return next(letters);
            case 12:
                return next(20);
            case 13:
                return 2 + next(next(3) == 0 ? 9 : 3);
            case 14:
                return 2 + next(3);
            case 20:
                return next(5);
            default:
                return next(11);
        }
    }

    private static int next(int bound) {
        seed = seed * 6364136223846793005L + 1442695040888963407L;
        return (int) ((seed >>> 33) % bound);
    }

    private static String told(Answer answer) {
        StringBuilder value = new StringBuilder();
        String thrown = Probe.thrownBy(() -> value.append(answer.get()));
        return value.length() == 0 ? thrown : value.toString();
    }

    private static long onGame(GhostGame g, int call, int argument) {
        switch (call) {
            case 2: return g.write(argument);
            case 3: return g.wipe();
            case 4: return g.slipLength();
            case 5: return g.slipAt(argument);
            case 6: return g.addWord();
            case 7: return g.removeWord();
            case 8: return g.isWord() ? 1 : 0;
            case 9: return g.words();
            case 10: return g.wordsFromSlip();
            case 11: return g.beginnings();
            case 12: return g.copyWord(argument);
            case 13: return g.setLeastLength(argument);
            case 14: g.start(argument); return 0;
            case 15: return g.play(argument);
            case 16: return g.challenge();
            case 17: return g.turn();
            case 18: return g.winner();
            case 19: return g.players();
            case 20: return g.strikes(argument);
            case 21: return g.fragmentLength();
            case 22: return g.fragmentAt(argument);
            case 23: return g.openLetters();
            case 24: return g.winningLetters();
            case 25: return g.canWin() ? 1 : 0;
            case 26: return g.end();
            case 27: return g.bestLetter();
            case 28: return g.waysToPlay();
            default: return g.waysToWin();
        }
    }

    private static long onModel(Model m, int call, int argument) {
        switch (call) {
            case 2: return m.write(argument);
            case 3: return m.wipe();
            case 4: return m.slipLength();
            case 5: return m.slipAt(argument);
            case 6: return m.addWord();
            case 7: return m.removeWord();
            case 8: return m.isWord() ? 1 : 0;
            case 9: return m.words();
            case 10: return m.wordsFromSlip();
            case 11: return m.beginnings();
            case 12: return m.copyWord(argument);
            case 13: return m.setLeastLength(argument);
            case 14: return m.start(argument);
            case 15: return m.play(argument);
            case 16: return m.challenge();
            case 17: return m.turn();
            case 18: return m.winner();
            case 19: return m.players();
            case 20: return m.strikes(argument);
            case 21: return m.fragmentLength();
            case 22: return m.fragmentAt(argument);
            case 23: return m.openLetters();
            case 24: return m.winningLetters();
            case 25: return m.canWin() ? 1 : 0;
            case 26: return m.end();
            case 27: return m.bestLetter();
            case 28: return m.waysToPlay();
            default: return m.waysToWin();
        }
    }
}
