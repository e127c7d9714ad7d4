/** Promises 1 to 4: a new object, put, kinds, rope. */
public final class LaddersTest {

    public static void main(String[] args) {
        newObject();
        putChanges();
        putRefuses();
        putFalls();
        kindsChanges();
        kindsRefuses();
        kindsFalls();
        ropeChanges();
        ropeRefuses();
        ropeFalls();
        Check.end();
    }

    /** Somebody of the weight 80 on the step 8 of a ladder on tiles at a glass wall: just held. */
    private static LadderClimb onTiles() {
        LadderClimb x = new LadderClimb();
        Check.due("kinds of tiles and glass", 0, x.kinds(1, 1, 0));
        Check.due("on the tiles", 1, x.on(1, 80));
        Check.due("climb on the tiles", 8, x.climb(1, 0, 8));
        return x;
    }

    private static void numbers(String what, LadderClimb x, int ladder, int... want) {
        for (int i = 0; i < want.length; i++) {
            Check.due(what + ": ladder(" + ladder + ", " + i + ")", want[i], x.ladder(ladder, i));
        }
    }

    private static void newObject() {
        Check.due("NONE", -1, LadderClimb.NONE);
        LadderClimb x = new LadderClimb();
        for (int i = 0; i < 4; i++) {
            numbers("new", x, i, 50, 150, 20, 2, 2, 0, 0, 20, 5000, 0, 1);
        }
        int[] counts = {4, 0, 0, 0, 0, 0};
        for (int i = 0; i < counts.length; i++) {
            Check.due("new: count(" + i + ")", counts[i], x.count(i));
        }
        Check.dueShare("new: safety", 1.0, x.safety());
        Check.due("new: firstError", 0, x.firstError());
        Check.due("new: clearBuffer", 0, x.clearBuffer());
        Check.badState(x, "new: undo", x::undo);
        Check.badArgument(x, "new: play", x::play);
        // One object knows nothing of another.
        x.on(0, 80);
        Check.due("new: people beside another object's", 0, new LadderClimb().count(1));
    }

    private static void putChanges() {
        LadderClimb x = new LadderClimb();
        x.kinds(2, 3, 1);
        x.rope(2, 7);
        Check.due("put", 0, x.put(2, 60, 200, 35));
        numbers("put", x, 2, 60, 200, 35, 3, 1, 7, 0, 35, 60 * 5 * 35, 0, 1);
        numbers("put: another ladder", x, 1, 50, 150, 20, 2, 2, 0, 0, 20, 5000, 0, 1);
        Check.due("put: saved", 3, x.count(5));
        Check.due("put the least", 0, x.put(0, 10, 50, 1));
        numbers("put the least", x, 0, 10, 50, 1);
        Check.due("put the greatest", 0, x.put(3, 100, 300, 100));
        numbers("put the greatest", x, 3, 100, 300, 100);
        Check.due("put: nothing new", 0, x.put(3, 100, 300, 100));
        Check.due("put: nothing new is saved, too", 6, x.count(5));
        x.undo();
        x.undo();
        numbers("put undone", x, 3, 50, 150, 20);
    }

    private static void putRefuses() {
        LadderClimb x = onTiles();
        Check.noLadder(x, "put(-1)", () -> x.put(-1, 50, 150, 20));
        Check.noLadder(x, "put(4)", () -> x.put(4, 50, 150, 20));
        Check.noLadder(x, "put(4) and all else wrong", () -> x.put(4, 9, 49, 0));
        Check.noLadder(x, "put(least int)", () -> x.put(Integer.MIN_VALUE, 50, 150, 20));
        Check.badArgument(x, "put base 9", () -> x.put(1, 9, 150, 20));
        Check.badArgument(x, "put base 101", () -> x.put(1, 101, 150, 20));
        Check.badArgument(x, "put base -50", () -> x.put(1, -50, 150, 20));
        Check.badArgument(x, "put height 49", () -> x.put(1, 50, 49, 20));
        Check.badArgument(x, "put height 301", () -> x.put(1, 50, 301, 20));
        Check.badArgument(x, "put weight 0", () -> x.put(1, 50, 150, 0));
        Check.badArgument(x, "put weight 101", () -> x.put(1, 50, 150, 101));
        Check.badArgument(x, "put weight greatest int", () -> x.put(1, 50, 150, Integer.MAX_VALUE));
        Check.due("put refused: the people stay", 8, x.person(1, 0, 1));
    }

    private static void putFalls() {
        LadderClimb x = onTiles();
        // 100 * 50 * 740 is at most 1500 * 25 * 100, but 100 * 51 * 740 is not.
        Check.due("put steeper", 0, x.put(1, 49, 150, 20));
        Check.due("put: the step stays", 8, x.person(1, 0, 1));
        Check.due("put: the weight stays", 80, x.person(1, 0, 0));
        Check.due("put flatter", 1, x.put(1, 52, 150, 20));
        numbers("put fell", x, 1, 52, 150, 20, 1, 0, 0, 0, 20, 5200, 1, 1);
        Check.due("put fell: falls", 1, x.count(2));
        Check.due("put fell: fallen", 1, x.count(3));
        x.undo();
        numbers("put fell, undone", x, 1, 49, 150, 20, 1, 0, 0, 1, 100, 49 * 740, 0, 1);
        Check.due("put fell, undone: step", 8, x.person(1, 0, 1));
        Check.due("put without people slips", 0, x.put(0, 100, 50, 100));
        numbers("put without people", x, 0, 100, 50, 100, 2, 2, 0, 0, 100, 50000, 0, 0);
        Check.due("put without people: standing", 3, x.count(0));
        Check.due("put without people: falls", 0, x.count(2));
    }

    private static void kindsChanges() {
        LadderClimb x = new LadderClimb();
        for (int ground = 0; ground < 4; ground++) {
            for (int wall = 0; wall < 4; wall++) {
                Check.due("kinds", 0, x.kinds(3, ground, wall));
                numbers("kinds", x, 3, 50, 150, 20, ground, wall, 0);
            }
        }
        numbers("kinds: another ladder", x, 2, 50, 150, 20, 2, 2, 0);
        Check.due("kinds: saved", 6, x.count(5));
        x.kinds(3, 3, 3);
        x.undo();
        Check.due("kinds: nothing new is saved, too", 3, x.ladder(3, 4));
        x.undo();
        Check.due("kinds undone", 2, x.ladder(3, 4));
    }

    private static void kindsRefuses() {
        LadderClimb x = onTiles();
        Check.noLadder(x, "kinds(-1)", () -> x.kinds(-1, 0, 0));
        Check.noLadder(x, "kinds(4) and all else wrong", () -> x.kinds(4, 4, -1));
        Check.badArgument(x, "kinds ground -1", () -> x.kinds(1, -1, 0));
        Check.badArgument(x, "kinds ground 4", () -> x.kinds(1, 4, 0));
        Check.badArgument(x, "kinds wall -1", () -> x.kinds(1, 0, -1));
        Check.badArgument(x, "kinds wall 4", () -> x.kinds(1, 0, 4));
        Check.due("kinds refused", 1, x.ladder(1, 3));
    }

    private static void kindsFalls() {
        LadderClimb x = onTiles();
        Check.due("on the tiles a second one", 2, x.on(1, 20));
        Check.due("kinds of gravel", 0, x.kinds(1, 3, 3));
        Check.due("kinds: the people stay", 2, x.ladder(1, 6));
        Check.due("kinds of ice", 1, x.kinds(1, 0, 3));
        numbers("kinds fell", x, 1, 50, 150, 20, 0, 3, 0, 0, 20, 5000, 1, 0);
        Check.due("kinds fell: fallen", 2, x.count(3));
        Check.due("kinds of ice again, without people", 0, x.kinds(1, 0, 0));
        Check.due("kinds: falls", 1, x.count(2));
    }

    private static void ropeChanges() {
        LadderClimb x = new LadderClimb();
        Check.due("rope 200", 0, x.rope(0, 200));
        numbers("rope 200", x, 0, 50, 150, 20, 2, 2, 200);
        Check.due("rope 1", 0, x.rope(0, 1));
        Check.due("rope 0", 0, x.rope(0, 0));
        Check.due("rope 0 again", 0, x.rope(0, 0));
        numbers("rope 0", x, 0, 50, 150, 20, 2, 2, 0);
        Check.due("rope: saved", 4, x.count(5));
        x.undo();
        x.undo();
        Check.due("rope undone", 1, x.ladder(0, 5));
        Check.due("rope of another ladder", 0, x.ladder(1, 5));
    }

    private static void ropeRefuses() {
        LadderClimb x = onTiles();
        Check.noLadder(x, "rope(-1)", () -> x.rope(-1, 0));
        Check.noLadder(x, "rope(4, 201)", () -> x.rope(4, 201));
        Check.badArgument(x, "rope -1", () -> x.rope(1, -1));
        Check.badArgument(x, "rope 201", () -> x.rope(1, 201));
    }

    private static void ropeFalls() {
        LadderClimb x = onTiles();
        x.rope(1, 5);
        // 100 * 50 * 900 is just 1500 * (25 * 100 + 100 * 5).
        Check.due("climb with a rope", 10, x.climb(1, 0, 10));
        Check.due("rope 6", 0, x.rope(1, 6));
        Check.due("rope 5", 0, x.rope(1, 5));
        Check.due("rope 4", 1, x.rope(1, 4));
        numbers("rope fell", x, 1, 50, 150, 20, 1, 0, 4, 0, 20, 5000, 1, 1);
        Check.due("rope fell: fallen", 1, x.count(3));
    }
}
