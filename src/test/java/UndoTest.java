/** Promise 12, and what each undoable method saves. */
public final class UndoTest {

    public static void main(String[] args) {
        nothingSaved();
        seventhState();
        restoresAll();
        leavesTheBuffer();
        savesAlsoWhatChangesNothing();
        savesNothingOnExceptions();
        looksSaveNothing();
        ringGoesRound();
        Check.end();
    }

    private static void nothingSaved() {
        LadderClimb x = new LadderClimb();
        Check.badState(x, "undo at first", x::undo);
        x.on(0, 80);
        Check.due("undo", 0, x.undo());
        Check.badState(x, "undo with nothing left", x::undo);
    }

    private static void seventhState() {
        LadderClimb x = new LadderClimb();
        for (int rope = 1; rope <= 6; rope++) {
            x.rope(0, rope);
            Check.due("saved", rope, x.count(5));
        }
        x.rope(0, 7);
        Check.due("the seventh drops the oldest", 6, x.count(5));
        for (int left = 5; left >= 0; left--) {
            Check.due("undo", left, x.undo());
            Check.due("undo: rope", left + 1, x.ladder(0, 5));
        }
        Check.badState(x, "undo to the dropped state", x::undo);
        Check.due("the oldest state is dropped", 1, x.ladder(0, 5));
    }

    private static void restoresAll() {
        LadderClimb x = new LadderClimb();
        x.kinds(3, 1, 0);
        x.on(3, 80);
        x.climb(3, 0, 8);
        long before = x.digest();
        Check.due("a fall", -1, x.climb(3, 0, 9));
        Check.due("undo of a fall", 3, x.undo());
        Check.due("undo of a fall: the whole state", before, x.digest());
        Check.due("undo of a fall: falls", 0, x.ladder(3, 9));
        Check.due("undo of a fall: all falls", 0, x.count(2));
        Check.due("undo of a fall: fallen", 0, x.count(3));
        Check.due("undo of a fall: steps", 8, x.count(4));
        Check.dueShare("undo of a fall: safety", 1.0, x.safety());
        x.put(0, 33, 111, 44);
        x.kinds(0, 3, 1);
        x.undo();
        x.undo();
        Check.due("undo of put and kinds: the whole state", before, x.digest());
    }

    private static void leavesTheBuffer() {
        LadderClimb x = new LadderClimb();
        Check.type(x, "0x");
        x.on(0, 80);
        Check.type(x, ";1x");
        x.undo();
        Check.due("undo: the buffer stays", 5, x.clearBuffer());
        Check.type(x, "0r9");
        x.play();
        Check.type(x, "2");
        x.undo();
        Check.due("undo of play: the buffer is not that of before", 1, x.clearBuffer());
    }

    private static void savesAlsoWhatChangesNothing() {
        LadderClimb x = new LadderClimb();
        x.put(0, 50, 150, 20);
        x.kinds(0, 2, 2);
        x.rope(0, 0);
        Check.type(x, "0u3");
        Check.due("play of nothing", 0, x.play());
        Check.due("saved without a change", 4, x.count(5));
        x.on(0, 80);
        x.climb(0, 0, 0);
        Check.due("saved with climb to the same", 6, x.count(5));
        Check.due("undo of climb to the same", 5, x.undo());
        Check.due("undo of climb to the same: people", 1, x.count(1));
        Check.due("undo of on", 4, x.undo());
        Check.due("undo of on: people", 0, x.count(1));
    }

    private static void savesNothingOnExceptions() {
        LadderClimb x = new LadderClimb();
        x.on(0, 80);
        Check.badArgument(x, "put", () -> x.put(0, 0, 0, 0));
        Check.badArgument(x, "kinds", () -> x.kinds(0, 9, 9));
        Check.badArgument(x, "rope", () -> x.rope(0, 999));
        Check.badArgument(x, "on", () -> x.on(0, 0));
        Check.noLadder(x, "off", () -> x.off(0, 1));
        Check.badArgument(x, "climb", () -> x.climb(0, 0, 99));
        Check.badArgument(x, "play", x::play);
        Check.due("saved", 1, x.count(5));
        x.undo();
        Check.due("the state from before on", 0, x.count(1));
    }

    private static void looksSaveNothing() {
        LadderClimb x = new LadderClimb();
        x.on(1, 80);
        x.climb(1, 0, 5);
        long before = x.digest();
        x.highest(1, 0);
        x.neededRope(1);
        x.bestBase(1);
        x.riskiest(1);
        x.walls(1);
        x.safety();
        x.held(1, 5);
        x.force(1, 3);
        Check.due("looks change nothing", before, x.digest());
        Check.due("looks save nothing", 2, x.count(5));
        Check.due("looks leave the step", 5, x.person(1, 0, 1));
        Check.due("looks leave the base", 50, x.ladder(1, 0));
        Check.due("looks leave the rope", 0, x.ladder(1, 5));
        Check.due("looks leave the wall", 2, x.ladder(1, 4));
    }

    private static void ringGoesRound() {
        LadderClimb x = new LadderClimb();
        for (int round = 0; round < 20; round++) {
            for (int rope = 1; rope <= 4; rope++) {
                x.rope(0, 4 * round + rope);
            }
            x.undo();
            x.undo();
            Check.due("round " + round + ": rope", 4 * round + 2, x.ladder(0, 5));
            Check.due("round " + round + ": saved", round == 0 ? 2 : 4, x.count(5));
        }
    }
}
