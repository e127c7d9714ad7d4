/** Promises 13 to 17: ladder, person, force, held, count. */
public final class LooksTest {

    public static void main(String[] args) {
        ladderTells();
        personTells();
        forceTells();
        forceOfOneThatSlips();
        heldTells();
        groundsHold();
        wallsHold();
        countTells();
        Check.end();
    }

    /** Tiles and brick, 60 by 100, and somebody of 80 on the step 4: the f 1 to 8 hold. */
    private static LadderClimb leaning() {
        LadderClimb x = new LadderClimb();
        x.put(1, 60, 100, 20);
        x.kinds(1, 1, 2);
        x.on(1, 80);
        x.climb(1, 0, 4);
        return x;
    }

    private static void row(String what, Row row, int... want) {
        for (int i = 0; i < want.length; i++) {
            Check.due(what + " " + i, want[i], row.at(i));
        }
    }

    interface Row {
        int at(int what);
    }

    private static void ladderTells() {
        LadderClimb x = leaning();
        row("ladder 1", i -> x.ladder(1, i), 60, 100, 20, 1, 2, 0, 1, 100, 60 * (5 * 20 + 4 * 80), 0, 1);
        x.rope(1, 9);
        Check.due("ladder: rope", 9, x.ladder(1, 5));
        x.rope(1, 0);
        x.climb(1, 0, 5);
        row("ladder 1 behind a fall", i -> x.ladder(1, i), 60, 100, 20, 1, 2, 0, 0, 20, 6000, 1, 0);
        x.kinds(1, 2, 2);
        Check.due("ladder: it stands on wood", 1, x.ladder(1, 10));
        Check.noLadder(x, "ladder(-1, 0)", () -> x.ladder(-1, 0));
        Check.noLadder(x, "ladder(4, 11)", () -> x.ladder(4, 11));
        Check.badArgument(x, "ladder(0, -1)", () -> x.ladder(0, -1));
        Check.badArgument(x, "ladder(0, 11)", () -> x.ladder(0, 11));
    }

    private static void personTells() {
        LadderClimb x = leaning();
        x.on(1, 33);
        row("person 0", i -> x.person(1, 0, i), 80, 4);
        row("person 1", i -> x.person(1, 1, i), 33, 0);
        Check.noLadder(x, "person(-1, 0, 0)", () -> x.person(-1, 0, 0));
        Check.noLadder(x, "person(4, 0, 2)", () -> x.person(4, 0, 2));
        Check.noLadder(x, "person(1, -1, 0)", () -> x.person(1, -1, 0));
        Check.noLadder(x, "person(1, 2, 2)", () -> x.person(1, 2, 2));
        Check.noLadder(x, "person(0, 0, 0)", () -> x.person(0, 0, 0));
        Check.badArgument(x, "person(1, 0, -1)", () -> x.person(1, 0, -1));
        Check.badArgument(x, "person(1, 0, 2)", () -> x.person(1, 0, 2));
    }

    private static void forceTells() {
        LadderClimb x = leaning();
        // The push is 25200 - 600 f. The wall: 100000 f <= 45 push, so f <= 8 (8.9).
        // The ground: 100 push <= 1000 * 25 * (100 - f), so 20000 <= 35000 f, so f >= 1.
        row("force", i -> x.force(1, i), 1001, 1008, 8, 1001, 24600, 99);
        x.climb(1, 0, 3);
        row("force of step 3", i -> x.force(1, i), 988, 1007, 20, 1000, 20400, 100);
        x.kinds(1, 1, 3);
        row("force at bark", i -> x.force(1, i), 1000, 1009, 10, 1000, 20400, 100);
        x.kinds(1, 1, 0);
        row("force at glass", i -> x.force(1, i), 1000, 1000, 1, 1000, 20400, 100);
        // A ground that takes less the more f is: base 50, height 150, gravel.
        LadderClimb y = new LadderClimb();
        y.kinds(0, 3, 2);
        y.on(0, 150);
        y.climb(0, 0, 10);
        row("force on gravel", i -> y.force(0, i), 972, 1020, 49, 1000, 80000, 170);
        // The heaviest works of all: 550 at the base 100.
        y.put(1, 100, 300, 100);
        y.kinds(1, 3, 2);
        y.rope(1, 200);
        for (int i = 0; i < 3; i++) {
            y.on(1, 150);
            y.climb(1, i, 10);
        }
        row("force of the heaviest", i -> y.force(1, i), 912, 1065, 154, 1000, 500000, 550);
        Check.noLadder(x, "force(-1, 0)", () -> x.force(-1, 0));
        Check.noLadder(x, "force(4, 6)", () -> x.force(4, 6));
        Check.badArgument(x, "force(0, -1)", () -> x.force(0, -1));
        Check.badArgument(x, "force(0, 6)", () -> x.force(0, 6));
    }

    private static void forceOfOneThatSlips() {
        LadderClimb x = new LadderClimb();
        x.put(2, 100, 50, 100);
        row("force of one that slips", i -> x.force(2, i), -1, -1, 0, -1, -1, -1);
        Check.badArgument(x, "force(2, 6) of one that slips", () -> x.force(2, 6));
        Check.badArgument(x, "force(2, -1) of one that slips", () -> x.force(2, -1));
    }

    private static void heldTells() {
        LadderClimb x = leaning();
        int[] fs = {-1000, -1, 0, 1, 8, 9, 42, 43, 100, 101, 1000};
        int[] masks = {10, 8, 8, 0, 0, 2, 2, 3, 3, 7, 7};
        for (int i = 0; i < fs.length; i++) {
            Check.due("held(1, " + fs[i] + ")", masks[i], x.held(1, fs[i]));
        }
        LadderClimb y = leaning();
        for (int f = -1000; f <= 1000; f++) {
            if ((f + 1000) % 400 == 0) {
                // An object is used for 512 calls.
                y = leaning();
            }
            Check.due("held(1, " + f + ") as force tells", f >= 1 && f <= 8 ? 1 : 0, y.held(1, f) == 0 ? 1 : 0);
        }
        x.climb(1, 0, 3);
        Check.due("held at brick, f below 0", 0, x.held(1, -1));
        Check.due("held at brick, f at its least", 0, x.held(1, -12));
        Check.due("held at brick, f below its least", 2, x.held(1, -13));
        x.kinds(1, 1, 3);
        Check.due("held at bark, f below 0", 2, x.held(1, -1));
        Check.due("held at bark, f 0", 0, x.held(1, 0));
        x.kinds(1, 1, 0);
        Check.due("held at glass, f 0", 0, x.held(1, 0));
        Check.due("held at glass, f 1", 2, x.held(1, 1));
        Check.due("held at glass, f -1", 2, x.held(1, -1));
        // All four at once: a ground of 60 percents takes much from a force that pulls.
        x.kinds(0, 3, 2);
        Check.due("held by nothing", 15, x.held(0, 1000));
        Check.noLadder(x, "held(-1, 0)", () -> x.held(-1, 0));
        Check.noLadder(x, "held(4, 1001)", () -> x.held(4, 1001));
        Check.badArgument(x, "held(0, -1001)", () -> x.held(0, -1001));
        Check.badArgument(x, "held(0, 1001)", () -> x.held(0, 1001));
        Check.badArgument(x, "held(0, least int)", () -> x.held(0, Integer.MIN_VALUE));
    }

    private static void heldOf(int base, int height, int weight, int ground, int wall, int f, int want) {
        LadderClimb x = new LadderClimb();
        x.put(3, base, height, weight);
        x.kinds(3, ground, wall);
        Check.due("held by " + f + " of " + base + " " + height + " " + weight + " " + ground + " " + wall,
                want, x.held(3, f));
    }

    /** An empty ladder, f 0: 500 base * weight is at most 10 height * percents * weight, just so. */
    private static void groundsHold() {
        heldOf(10, 100, 7, 0, 2, 0, 0);
        heldOf(10, 99, 7, 0, 2, 0, 8);
        heldOf(50, 100, 100, 1, 2, 0, 0);
        heldOf(50, 99, 100, 1, 2, 0, 8);
        heldOf(100, 125, 3, 2, 2, 0, 0);
        heldOf(100, 124, 3, 2, 2, 0, 8);
        heldOf(60, 50, 1, 3, 2, 0, 0);
        heldOf(61, 50, 1, 3, 2, 0, 8);
        LadderClimb x = new LadderClimb();
        x.put(0, 100, 50, 100);
        x.kinds(0, 0, 2);
        x.rope(0, 95);
        Check.due("held by a rope of 95", 0, x.held(0, 0));
        x.rope(0, 94);
        Check.due("held by a rope of 94", 8, x.held(0, 0));
        x.put(0, 100, 100, 49);
        x.rope(0, 22);
        Check.due("held by a rope of 22", 8, x.held(0, 0));
        x.rope(0, 23);
        Check.due("held by a rope of 23", 0, x.held(0, 0));
    }

    /** 1000 height * f is at most percents * push, just so; one less of weight is too light. */
    private static void wallsHold() {
        heldOf(100, 50, 100, 3, 0, -1, 10);
        heldOf(50, 300, 100, 3, 0, -1, 2);
        heldOf(10, 50, 52, 3, 1, 1, 0);
        heldOf(10, 50, 51, 3, 1, 1, 2);
        heldOf(10, 90, 84, 3, 2, 2, 0);
        heldOf(10, 90, 83, 3, 2, 2, 2);
        heldOf(30, 50, 47, 3, 2, 5, 2);
        heldOf(30, 50, 48, 3, 2, 5, 0);
        heldOf(10, 60, 88, 3, 3, 4, 0);
        heldOf(10, 60, 87, 3, 3, 4, 2);
        // With 10 f = weight * 5 the push is 0, which is not below 0 yet.
        heldOf(10, 50, 2, 3, 0, 1, 2);
        heldOf(10, 50, 2, 3, 0, 2, 3);
    }

    private static void countTells() {
        LadderClimb x = leaning();
        x.on(0, 20);
        row("count", x::count, 4, 2, 0, 0, 4, 5);
        x.on(1, 150);
        x.climb(1, 0, 10);
        row("count", x::count, 4, 3, 0, 0, 10, 6);
        x.off(1, 1);
        // Without anybody it slips, too, but has no fall by that.
        row("count behind a fall", x::count, 3, 1, 1, 1, 10, 6);
        x.put(3, 100, 50, 100);
        row("count with one more that slips", x::count, 2, 1, 1, 1, 10, 6);
        x.on(3, 20);
        x.on(3, 20);
        row("count behind three falls", x::count, 2, 1, 3, 3, 10, 6);
        Check.badArgument(x, "count(-1)", () -> x.count(-1));
        Check.badArgument(x, "count(6)", () -> x.count(6));
    }
}
