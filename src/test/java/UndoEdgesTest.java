/** "Undo" of the document: what is saved, how many, what is restored and what is not. */
public final class UndoEdgesTest {

    private static final int UNDOABLE = 7;
    private static final int LOOKS = 17;

    public static void main(String[] args) {
        for (int n = 0; n <= 14; n++) {
            keepsSix(n);
        }
        for (int kind = 0; kind < UNDOABLE; kind++) {
            restores(kind);
            savesWithoutChange(kind);
        }
        for (int kind = 0; kind < LOOKS; kind++) {
            savesNothing(kind);
        }
        fallsAreRestored();
        bufferIsNotRestored();
        savesAgainBehindUndo();
        longRuns();
        Check.end();
    }

    private static LadderClimb busy() {
        LadderClimb x = new LadderClimb();
        Check.type(x, "0o80;0u2;1o80;1o60;1u3;2o20;3r50");
        x.play();
        return x;
    }

    private static int change(LadderClimb x, int kind) {
        switch (kind) {
            case 0: return x.put(1, 33, 222, 44);
            case 1: return x.kinds(1, 3, 1);
            case 2: return x.rope(1, 99);
            case 3: return x.on(1, 70);
            case 4: return x.off(1, 0);
            case 5: return x.climb(1, 1, 5);
            default:
                Check.type(x, "1o33;1u1;2x;3r9");
                return x.play();
        }
    }

    /** The same kinds of calls, but so that nothing is another behind them (on and off have none such). */
    private static int sameAgain(LadderClimb x, int kind) {
        switch (kind) {
            case 0: return x.put(1, 50, 150, 20);
            case 1: return x.kinds(1, 2, 2);
            case 2: return x.rope(3, 50);
            case 5: return x.climb(1, 0, 3);
            case 6:
                Check.type(x, "3x;1o33");
                return x.play();
            default: return -2;
        }
    }

    private static long look(LadderClimb x, int kind) {
        switch (kind) {
            case 0: return x.append('0');
            case 1: return x.clearBuffer();
            case 2: return x.firstError();
            case 3: return x.ladder(1, 10);
            case 4: return x.person(1, 1, 1);
            case 5: return x.force(1, 5);
            case 6: return x.held(1, 7);
            case 7: return x.count(0);
            case 8: return x.highest(1, 0);
            case 9: return x.neededRope(1);
            case 10: return x.bestBase(1);
            case 11: return x.riskiest(1);
            case 12: return x.walls(1);
            case 13: return (long) x.safety();
            case 14: return x.digest();
            case 15: return x.count(5);
            default: return x.force(1, 0);
        }
    }

    /** "At most 6 states are saved; the oldest one is dropped first." */
    private static void keepsSix(int n) {
        LadderClimb x = new LadderClimb();
        long[] digests = new long[n + 1];
        for (int i = 0; i < n; i++) {
            Check.due("saved behind " + i, Math.min(i, 6), x.count(5));
            digests[i] = x.digest();
            x.rope(i % 4, i + 1);
        }
        int kept = Math.min(n, 6);
        Check.due("saved behind " + n, kept, x.count(5));
        for (int left = kept - 1; left >= 0; left--) {
            Check.due("undo behind " + n, left, x.undo());
            Check.due("undo behind " + n + ": saved", left, x.count(5));
            int state = n - kept + left;
            Check.due("undo behind " + n + ": rope", state == 0 ? 0 : state, x.ladder((state + 3) % 4, 5));
            Check.due("undo behind " + n + ": the next rope", state < 4 ? 0 : state - 3, x.ladder(state % 4, 5));
            if (n <= 6) {
                Check.due("undo behind " + n + ": all", digests[state], x.digest());
            }
        }
        Check.badState(x, "undo behind the last of " + n, x::undo);
        Check.badState(x, "undo behind the last of " + n + " again", x::undo);
        Check.due("undo behind the last of " + n + ": saved", 0, x.count(5));
    }

    private static void restores(int kind) {
        LadderClimb x = busy();
        long before = x.digest();
        change(x, kind);
        Check.due("change " + kind + " is saved once", 2, x.count(5));
        Check.due("change " + kind + " changes", 1, before == x.digest() ? 0 : 1);
        Check.due("undo of change " + kind, 1, x.undo());
        Check.due("undo of change " + kind + ": all", before, x.digest());
        Check.due("undo of change " + kind + ": what was saved before it", 0, x.undo());
        Check.due("undo of change " + kind + ": people of before", 0, x.count(1));
    }

    /** "also if it changes nothing". */
    private static void savesWithoutChange(int kind) {
        if (kind == 3 || kind == 4) {
            return;
        }
        LadderClimb x = busy();
        long before = x.digest();
        Check.due("same again " + kind, kind == 5 ? 3 : 0, sameAgain(x, kind));
        Check.due("same again " + kind + " is saved", 2, x.count(5));
        Check.due("same again " + kind + " and once more", kind == 5 ? 3 : 0, sameAgain(x, kind));
        Check.due("same again " + kind + " and once more is saved", 3, x.count(5));
        x.undo();
        x.undo();
        Check.due("same again " + kind + ": all as before", before, x.digest());
        for (int i = 1; i <= 6; i++) {
            sameAgain(x, kind);
        }
        for (int left = 5; left >= 0; left--) {
            Check.due("same again " + kind + " six times", left, x.undo());
        }
        Check.due("the state from before is dropped", 4, x.count(1));
        Check.badState(x, "undo of a dropped state", x::undo);
    }

    private static void savesNothing(int kind) {
        LadderClimb x = busy();
        x.rope(0, 5);
        look(x, kind);
        look(x, kind);
        Check.due("look " + kind + " saves nothing", 2, x.count(5));
        Check.due("look " + kind + ": undo", 1, x.undo());
        Check.due("look " + kind + ": rope", 0, x.ladder(0, 5));
        Check.due("look " + kind + ": people", 4, x.count(1));
        LadderClimb full = busy();
        for (int rope = 1; rope <= 6; rope++) {
            full.rope(0, rope);
        }
        look(full, kind);
        for (int left = 5; left >= 0; left--) {
            Check.due("look " + kind + " drops nothing", left, full.undo());
        }
        Check.due("look " + kind + " drops nothing: rope", 0, full.ladder(0, 5));
        Check.due("look " + kind + " drops nothing: people", 4, full.count(1));
    }

    /** "all, also what is counted so far". */
    private static void fallsAreRestored() {
        int[] ice = {50, 150, 20, 0, 0, 0};
        LadderClimb climbed = Make.ladder(2, ice, 47, 0, 150, 0);
        climbed.on(2, 20);
        fall("climb", climbed, 3, 2, () -> climbed.climb(2, 1, 10));
        LadderClimb gone = Make.ladder(2, ice, 47, 0, 20, 2, 150, 0);
        fall("off", gone, 3, 0, () -> gone.off(2, 2));
        LadderClimb came = new LadderClimb();
        came.kinds(2, 0, 0);
        fall("on", came, 0, 0, () -> came.on(2, 20));
        LadderClimb put = Make.ladder(2, ice, 47, 0, 150, 0);
        fall("put", put, 2, 0, () -> put.put(2, 100, 50, 20));
        LadderClimb kinds = Make.ladder(2, new int[] {50, 150, 20, 3, 0, 0}, 20, 5, 30, 4);
        fall("kinds", kinds, 2, 0, () -> kinds.kinds(2, 0, 0));
        LadderClimb rope = Make.ladder(2, new int[] {50, 150, 20, 0, 0, 9}, 20, 3);
        fall("rope", rope, 1, 0, () -> rope.rope(2, 0));
        LadderClimb play = Make.ladder(2, ice, 47, 0);
        Check.type(play, "2u5");
        fallOfPlay(play);
    }

    private static void fall(String what, LadderClimb x, int people, int steps, Check.Call call) {
        long before = x.digest();
        int saved = x.count(5);
        int climbed = x.count(4);
        call.answer();
        Check.due(what + " lets fall", 1, x.ladder(2, 9));
        Check.due(what + ": saved", Math.min(6, saved + 1), x.count(5));
        Check.due(what + ": nobody is left", 0, x.ladder(2, 6));
        Check.due(what + ": steps", climbed + steps, x.count(4));
        Check.due(what + " undone", Math.min(6, saved + 1) - 1, x.undo());
        Check.due(what + " undone: people", people, x.ladder(2, 6));
        Check.due(what + " undone: falls of the ladder", 0, x.ladder(2, 9));
        Check.due(what + " undone: falls", 0, x.count(2));
        Check.due(what + " undone: who fell", 0, x.count(3));
        Check.due(what + " undone: steps", climbed, x.count(4));
        Check.dueShare(what + " undone: safety", 1.0, x.safety());
        if (saved < 6) {
            Check.due(what + " undone: all", before, x.digest());
        }
    }

    private static void fallOfPlay(LadderClimb x) {
        Check.due("play lets fall", 1, x.play());
        Check.due("play lets fall: falls", 1, x.ladder(2, 9));
        x.undo();
        Check.due("play undone: falls", 0, x.ladder(2, 9));
        Check.due("play undone: who fell", 0, x.count(3));
        Check.due("play undone: person", 47, x.person(2, 0, 0));
        Check.due("play undone: step", 0, x.person(2, 0, 1));
    }

    /** "all ... but the buffer and the saved states". */
    private static void bufferIsNotRestored() {
        LadderClimb x = new LadderClimb();
        Check.type(x, "0r5");
        x.rope(1, 3);
        x.clearBuffer();
        Check.type(x, "1r");
        Check.due("undo beside a text", 0, x.undo());
        Check.due("undo beside a text: it is that of now", 2, x.firstError());
        x.append('8');
        Check.due("undo beside a text: it can be played", 1, x.play());
        Check.due("undo beside a text: rope", 8, x.ladder(1, 5));
        Check.due("undo of play", 0, x.undo());
        Check.due("undo of play: rope", 0, x.ladder(1, 5));
        Check.due("undo of play: the text is gone", 0, x.clearBuffer());
        // An empty buffer stays empty, and a full one full.
        x.rope(1, 3);
        for (int i = 0; i < 60; i++) {
            x.append('0');
        }
        x.undo();
        Check.badState(x, "append behind undo beside 60 characters", () -> x.append('0'));
        x.rope(1, 3);
        x.clearBuffer();
        x.undo();
        Check.due("undo beside an empty buffer", 0, x.clearBuffer());
    }

    /** "Restores the latest saved state, and drops it": nothing of what was undone comes back. */
    private static void savesAgainBehindUndo() {
        LadderClimb x = new LadderClimb();
        x.rope(0, 1);
        x.rope(0, 2);
        x.rope(0, 3);
        Check.due("undo", 2, x.undo());
        Check.due("undo", 1, x.undo());
        x.rope(0, 4);
        Check.due("saved again", 2, x.count(5));
        Check.due("undo of what came then", 1, x.undo());
        Check.due("undo of what came then: rope", 1, x.ladder(0, 5));
        Check.due("undo of the first", 0, x.undo());
        Check.due("undo of the first: rope", 0, x.ladder(0, 5));
        Check.badState(x, "undo of what is dropped", x::undo);
        // Six are kept, also behind undos and behind more than six.
        for (int rope = 1; rope <= 10; rope++) {
            x.rope(0, rope);
        }
        x.undo();
        x.undo();
        x.rope(0, 20);
        x.rope(0, 21);
        x.rope(0, 22);
        Check.due("six again", 6, x.count(5));
        int[] ropes = {21, 20, 8, 7, 6, 5};
        for (int i = 0; i < 6; i++) {
            Check.due("undo of six again", 5 - i, x.undo());
            Check.due("undo of six again: rope", ropes[i], x.ladder(0, 5));
        }
        Check.badState(x, "undo of a seventh", x::undo);
    }

    /** As many calls as an object is used for. */
    private static void longRuns() {
        LadderClimb x = new LadderClimb();
        for (int i = 1; i <= 490; i++) {
            x.rope(i % 4, i % 201);
        }
        Check.due("saved behind 490 calls", 6, x.count(5));
        for (int left = 5; left >= 0; left--) {
            Check.due("undo behind 490 calls", left, x.undo());
            int last = 484 + left;
            Check.due("undo behind 490 calls: rope", last % 201, x.ladder(last % 4, 5));
        }
        Check.badState(x, "undo of the seventh behind 490 calls", x::undo);
    }
}
