/** Promises 5 to 7: on, off, climb. */
public final class PeopleTest {

    public static void main(String[] args) {
        onCounts();
        onRefuses();
        onFalls();
        offShifts();
        offRefuses();
        offFalls();
        climbGoes();
        climbRefuses();
        climbFalls();
        Check.end();
    }

    private static void people(String what, LadderClimb x, int ladder, int... weightsAndSteps) {
        Check.due(what + ": people", weightsAndSteps.length / 2, x.ladder(ladder, 6));
        for (int i = 0; i < weightsAndSteps.length / 2; i++) {
            Check.due(what + ": weight of " + i, weightsAndSteps[2 * i], x.person(ladder, i, 0));
            Check.due(what + ": step of " + i, weightsAndSteps[2 * i + 1], x.person(ladder, i, 1));
        }
    }

    private static void onCounts() {
        LadderClimb x = new LadderClimb();
        Check.due("on, the lightest", 1, x.on(0, 20));
        Check.due("climb", 3, x.climb(0, 0, 3));
        Check.due("on, the heaviest", 2, x.on(0, 150));
        Check.due("on, the third", 3, x.on(0, 77));
        people("on", x, 0, 20, 3, 150, 0, 77, 0);
        people("on: another ladder", x, 1);
        Check.due("on: load", 20 + 20 + 150 + 77, x.ladder(0, 7));
        Check.due("on: all people", 3, x.count(1));
        Check.due("on: saved", 4, x.count(5));
        Check.due("on another ladder", 1, x.on(3, 50));
        Check.due("on: all people of both", 4, x.count(1));
        x.undo();
        x.undo();
        people("on undone", x, 0, 20, 3, 150, 0);
        Check.due("on after undo", 3, x.on(0, 66));
        people("on after undo", x, 0, 20, 3, 150, 0, 66, 0);
    }

    private static void onRefuses() {
        LadderClimb x = new LadderClimb();
        Check.noLadder(x, "on(-1)", () -> x.on(-1, 80));
        Check.noLadder(x, "on(4, 19)", () -> x.on(4, 19));
        Check.badArgument(x, "on 19", () -> x.on(0, 19));
        Check.badArgument(x, "on 151", () -> x.on(0, 151));
        Check.badArgument(x, "on -80", () -> x.on(0, -80));
        x.on(0, 30);
        x.on(0, 40);
        x.on(0, 50);
        Check.badState(x, "on as the fourth", () -> x.on(0, 80));
        Check.badArgument(x, "on as the fourth with 19", () -> x.on(0, 19));
        Check.noLadder(x, "on the ladder 4 behind three", () -> x.on(4, 80));
        people("on refused", x, 0, 30, 0, 40, 0, 50, 0);
    }

    private static void onFalls() {
        LadderClimb x = new LadderClimb();
        x.kinds(2, 0, 3);
        Check.due("the ice slips by itself", 0, x.ladder(2, 10));
        Check.due("on the ice", 0, x.on(2, 30));
        people("on the ice", x, 2);
        Check.due("on the ice: falls of the ladder", 1, x.ladder(2, 9));
        Check.due("on the ice: falls of another", 0, x.ladder(1, 9));
        Check.due("on the ice: falls", 1, x.count(2));
        Check.due("on the ice: fallen", 1, x.count(3));
        Check.due("on the ice: steps", 0, x.count(4));
        Check.due("on the ice again", 0, x.on(2, 30));
        Check.due("on the ice again: falls", 2, x.ladder(2, 9));
        // 100 * 50 * 5 * 20 is at most 1500 * 5 * 67, so that somebody heavy may come at the foot.
        Check.due("on the ice, heavier", 1, x.on(2, 47));
        x.undo();
        x.kinds(2, 0, 0);
        Check.due("on the ice, just too light", 0, x.on(2, 46));
        Check.due("on the ice, just heavy enough", 1, x.on(2, 47));
    }

    private static void offShifts() {
        LadderClimb x = new LadderClimb();
        x.on(0, 30);
        x.on(0, 40);
        x.on(0, 50);
        x.climb(0, 0, 1);
        x.climb(0, 1, 2);
        x.climb(0, 2, 3);
        Check.due("off, the one between", 2, x.off(0, 1));
        people("off, the one between", x, 0, 30, 1, 50, 3);
        Check.due("off: load", 20 + 80, x.ladder(0, 7));
        Check.due("off: moment", 50 * (100 + 30 + 150), x.ladder(0, 8));
        x.undo();
        people("off undone", x, 0, 30, 1, 40, 2, 50, 3);
        Check.due("off, the first", 2, x.off(0, 0));
        people("off, the first", x, 0, 40, 2, 50, 3);
        Check.due("off, the last", 1, x.off(0, 1));
        people("off, the last", x, 0, 40, 2);
        Check.due("on behind off", 2, x.on(0, 60));
        people("on behind off", x, 0, 40, 2, 60, 0);
        Check.due("off", 1, x.off(0, 1));
        Check.due("off, the only one", 0, x.off(0, 0));
        people("off, the only one", x, 0);
        Check.due("off is no fall", 0, x.count(2));
        Check.due("off: nobody fell", 0, x.count(3));
        Check.due("off: saved", 6, x.count(5));
    }

    private static void offRefuses() {
        LadderClimb x = new LadderClimb();
        Check.noLadder(x, "off nobody", () -> x.off(0, 0));
        x.on(0, 30);
        x.on(1, 30);
        x.on(1, 30);
        Check.noLadder(x, "off(-1)", () -> x.off(-1, 0));
        Check.noLadder(x, "off(4)", () -> x.off(4, 0));
        Check.noLadder(x, "off person -1", () -> x.off(0, -1));
        Check.noLadder(x, "off person 1", () -> x.off(0, 1));
        Check.noLadder(x, "off person 3", () -> x.off(0, 3));
        Check.noLadder(x, "off person greatest int", () -> x.off(0, Integer.MAX_VALUE));
    }

    private static void offFalls() {
        LadderClimb x = new LadderClimb();
        x.kinds(0, 1, 0);
        x.on(0, 150);
        x.on(0, 80);
        Check.due("climb while another stands at the foot", 10, x.climb(0, 1, 10));
        Check.due("off from the foot", 0, x.off(0, 0));
        people("off from the foot", x, 0);
        Check.due("off from the foot: falls", 1, x.ladder(0, 9));
        Check.due("off from the foot: the one above fell", 1, x.count(3));
        x.undo();
        people("off from the foot undone", x, 0, 150, 0, 80, 10);
        Check.due("off from the head", 1, x.off(0, 1));
        people("off from the head", x, 0, 150, 0);
        Check.due("off from the head: falls", 0, x.count(2));
        // A ladder that slips when nobody is left has no fall.
        LadderClimb y = new LadderClimb();
        y.kinds(0, 0, 0);
        y.on(0, 150);
        Check.due("off the ice", 0, y.off(0, 0));
        Check.due("off the ice: it slips", 0, y.ladder(0, 10));
        Check.due("off the ice: no fall", 0, y.count(2));
    }

    private static void climbGoes() {
        LadderClimb x = new LadderClimb();
        x.on(0, 80);
        x.on(0, 60);
        Check.due("climb up", 10, x.climb(0, 0, 10));
        Check.due("climb up: steps", 10, x.count(4));
        Check.due("climb down", 3, x.climb(0, 0, 3));
        Check.due("climb down: steps", 17, x.count(4));
        Check.due("climb to the same", 3, x.climb(0, 0, 3));
        Check.due("climb to the same: steps", 17, x.count(4));
        Check.due("climb: saved also if nothing changes", 5, x.count(5));
        Check.due("climb, the other", 1, x.climb(0, 1, 1));
        people("climb", x, 0, 80, 3, 60, 1);
        Check.due("climb: moment", 50 * (100 + 240 + 60), x.ladder(0, 8));
        Check.due("climb to the foot", 0, x.climb(0, 0, 0));
        Check.due("climb: all steps", 21, x.count(4));
        x.undo();
        Check.due("climb undone: steps", 18, x.count(4));
        people("climb undone", x, 0, 80, 3, 60, 1);
    }

    private static void climbRefuses() {
        LadderClimb x = new LadderClimb();
        Check.noLadder(x, "climb nobody", () -> x.climb(0, 0, 5));
        x.on(0, 80);
        Check.noLadder(x, "climb(-1)", () -> x.climb(-1, 0, 5));
        Check.noLadder(x, "climb(4)", () -> x.climb(4, 0, 11));
        Check.noLadder(x, "climb person -1", () -> x.climb(0, -1, 5));
        Check.noLadder(x, "climb person 1 to 11", () -> x.climb(0, 1, 11));
        Check.badArgument(x, "climb to -1", () -> x.climb(0, 0, -1));
        Check.badArgument(x, "climb to 11", () -> x.climb(0, 0, 11));
        Check.badArgument(x, "climb to least int", () -> x.climb(0, 0, Integer.MIN_VALUE));
    }

    private static void climbFalls() {
        LadderClimb x = new LadderClimb();
        x.kinds(0, 1, 0);
        x.on(0, 80);
        Check.due("climb to the last step that holds", 8, x.climb(0, 0, 8));
        Check.due("climb: steps", 8, x.count(4));
        Check.due("climb over it", -1, x.climb(0, 0, 10));
        Check.due("climb over it: steps up to the one at which it falls", 9, x.count(4));
        people("climb over it", x, 0);
        Check.due("climb over it: falls", 1, x.count(2));
        Check.due("climb over it: fallen", 1, x.count(3));
        Check.due("climb over it: the ladder is as before", 1, x.ladder(0, 10));
        x.undo();
        people("climb over it, undone", x, 0, 80, 8);
        Check.due("climb over it, undone: steps", 8, x.count(4));
        x.on(0, 20);
        // 100 * 50 * (740 + 20 * 8) is just 1500 * 25 * 120.
        Check.due("climb of the second: all fall", -1, x.climb(0, 1, 10));
        Check.due("climb of the second: steps", 8 + 9, x.count(4));
        Check.due("climb of the second: fallen", 2, x.count(3));
        // A wall that holds by friction alone: the ladder slips on the step 5.
        LadderClimb y = new LadderClimb();
        y.put(2, 60, 100, 20);
        y.kinds(2, 1, 2);
        y.on(2, 80);
        Check.due("climb to 4", 4, y.climb(2, 0, 4));
        Check.due("climb to 5", -1, y.climb(2, 0, 5));
        Check.due("climb to 5: steps", 5, y.count(4));
    }
}
