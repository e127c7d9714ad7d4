/** "Forces" of the document: each "at most" and "or more", just so and just not so. */
public final class ForceEdgesTest {

    /**
     * base, height, weight, ground, wall, rope, weight and step of one person (0: nobody); the least
     * and the greatest f that hold; what gives way (held) below the least and above the greatest.
     */
    private static final int[][] ROWS = {
        // The least is where the ground holds just so, below 0 ...
        {50, 100, 85, 1, 2, 0, 135, 4, -27, 17, 8, 2},
        {55, 70, 60, 1, 2, 0, 45, 0, -5, 7, 8, 2},
        {80, 120, 100, 2, 2, 0, 60, 7, -10, 21, 8, 2},
        {75, 100, 100, 3, 1, 0, 125, 10, -25, 22, 8, 2},
        {100, 50, 40, 3, 1, 30, 0, 0, -10, 5, 8, 2},
        // ... and above 0.
        {90, 140, 85, 1, 2, 0, 20, 1, 6, 9, 8, 2},
        {45, 80, 60, 1, 3, 0, 0, 0, 6, 7, 8, 2},
        {50, 50, 20, 1, 2, 35, 85, 7, 11, 21, 8, 2},
        {90, 75, 95, 2, 3, 75, 150, 10, 80, 82, 8, 2},
        // The least is where the wall holds just so.
        {60, 135, 80, 0, 2, 110, 0, 0, -10, 6, 2, 2},
        {100, 220, 40, 2, 1, 0, 125, 4, -7, 5, 2, 2},
        {75, 110, 90, 3, 2, 0, 110, 7, -54, 28, 2, 2},
        {80, 90, 15, 3, 2, 0, 0, 0, -5, 2, 2, 2},
        {70, 70, 50, 3, 1, 0, 110, 5, -20, 13, 2, 2},
        {100, 80, 60, 3, 1, 15, 0, 0, -10, 6, 2, 2},
        // The greatest is where the wall holds just so.
        {80, 135, 100, 0, 2, 25, 35, 2, 4, 12, 8, 2},
        {100, 90, 90, 0, 3, 130, 100, 7, 0, 46, 2, 2},
        {45, 50, 100, 2, 1, 0, 30, 3, 3, 9, 8, 2},
        {75, 60, 100, 3, 2, 0, 0, 0, 4, 18, 8, 2},
        {75, 105, 100, 3, 3, 0, 0, 0, 0, 15, 2, 2},
        {75, 110, 50, 3, 2, 0, 100, 9, -50, 27, 2, 2},
        {60, 180, 60, 2, 3, 0, 0, 0, 0, 5, 2, 2},
        // Only just not: one more f lacks 5 of a million and more at the wall ...
        {43, 71, 51, 2, 2, 167, 88, 4, -22, 12, 2, 2},
        {23, 190, 51, 2, 2, 0, 110, 10, -7, 6, 2, 2},
        {89, 106, 51, 3, 3, 0, 114, 3, 0, 19, 2, 2},
        {41, 86, 25, 3, 3, 0, 106, 9, 0, 23, 2, 2},
        {61, 101, 59, 3, 2, 0, 77, 8, -33, 19, 2, 2},
        {91, 269, 37, 3, 1, 0, 126, 4, -4, 4, 2, 2},
        {28, 92, 63, 3, 2, 0, 0, 0, -4, 3, 2, 2},
        // ... or 50 and 100 on the ground.
        {19, 51, 42, 1, 1, 0, 146, 7, -8, 8, 8, 2},
        {97, 106, 79, 2, 1, 3, 0, 0, 4, 6, 8, 2},
        {63, 79, 91, 1, 2, 3, 68, 2, 9, 15, 8, 2},
        {98, 53, 63, 1, 3, 129, 112, 8, 33, 63, 8, 2},
        // Just one f holds.
        {90, 55, 95, 3, 2, 0, 0, 0, 20, 20, 8, 2},
        {75, 130, 100, 1, 3, 0, 0, 0, 12, 12, 8, 2},
        {85, 60, 85, 2, 2, 0, 115, 3, 29, 29, 8, 2},
        {80, 75, 15, 1, 1, 0, 55, 2, 3, 3, 8, 2},
        // The ground takes as much from f as the push does: 100 * base is its percents * height.
        {20, 80, 80, 1, 2, 0, 0, 0, -5, 4, 2, 2},
        {70, 280, 90, 1, 2, 0, 135, 9, -21, 16, 2, 2},
        {20, 50, 80, 2, 2, 0, 0, 0, -8, 6, 2, 2},
        {90, 150, 5, 3, 2, 155, 150, 6, -34, 19, 2, 2},
        {100, 250, 15, 2, 2, 0, 105, 5, -13, 9, 2, 2}};

    public static void main(String[] args) {
        for (int[] row : ROWS) {
            holdsFromTo(row);
        }
        oneForceOrNone();
        pushOfNothing();
        wallsHold();
        barkHoldsNoPull();
        upToTheLoad();
        groundsHold();
        nearestToNothing();
        farthestForces();
        loadAndMoment();
        Check.end();
    }

    private static LadderClimb made(int[] row) {
        return row[6] == 0 ? Make.ladder(2, row) : Make.ladder(2, row, row[6], row[7]);
    }

    private static void holdsFromTo(int[] row) {
        String what = java.util.Arrays.toString(row);
        LadderClimb x = made(row);
        int least = row[8];
        int greatest = row[9];
        int nearest = least > 0 ? least : 0;
        int load = row[2] + row[6];
        int moment = row[0] * (5 * row[2] + row[6] * row[7]);
        Check.due(what + ": it stands", 1, x.ladder(2, 10));
        Check.due(what + ": load", load, x.ladder(2, 7));
        Check.due(what + ": moment", moment, x.ladder(2, 8));
        Check.due(what + ": least", least + 1000, x.force(2, 0));
        Check.due(what + ": greatest", greatest + 1000, x.force(2, 1));
        Check.due(what + ": how many", greatest - least + 1, x.force(2, 2));
        Check.due(what + ": nearest", nearest + 1000, x.force(2, 3));
        Check.due(what + ": push", moment - 10 * nearest * row[0], x.force(2, 4));
        Check.due(what + ": on the ground", load - nearest, x.force(2, 5));
        Check.due(what + ": held below the least", row[10], x.held(2, least - 1));
        Check.due(what + ": held above the greatest", row[11], x.held(2, greatest + 1));
        for (int f = least; f <= greatest; f++) {
            Check.due(what + ": held by " + f, 0, x.held(2, f));
        }
        heldByNoOther(what, row, least, greatest);
    }

    /** All f of -1000 to 1000, with no more than 512 calls to an object. */
    private static void heldByNoOther(String what, int[] row, int least, int greatest) {
        LadderClimb x = made(row);
        for (int f = -1000; f <= 1000; f++) {
            if ((f + 1000) % 400 == 0) {
                x = made(row);
            }
            int due = f >= least && f <= greatest ? 1 : 0;
            Check.due(what + ": whether held by " + f, due, x.held(2, f) == 0 ? 1 : 0);
        }
    }

    private static void emptyHeldBy(int base, int height, int weight, int want) {
        LadderClimb x = Make.ladder(1, new int[] {base, height, weight, 3, 2, 0});
        String what = "held forces of " + base + " " + height + " " + weight;
        Check.due(what, want, x.force(1, 2));
        Check.due(what + ": stands", want > 0 ? 1 : 0, x.ladder(1, 10));
        Check.due(what + ": count of those that stand", want > 0 ? 4 : 3, x.count(0));
        for (int i = 0; i <= 5; i++) {
            if (i != 2 && want == 0) {
                Check.due(what + ": NONE of " + i, -1, x.force(1, i));
            }
        }
    }

    /** Between two integers there may be forces enough, but no f: more is not always better. */
    private static void oneForceOrNone() {
        emptyHeldBy(90, 55, 95, 1);
        emptyHeldBy(90, 55, 94, 0);
        emptyHeldBy(90, 55, 96, 0);
        emptyHeldBy(90, 54, 95, 0);
        emptyHeldBy(90, 56, 95, 0);
        emptyHeldBy(91, 55, 95, 0);
        emptyHeldBy(89, 55, 95, 1);
    }

    private static void held(int[] row, int f, int want) {
        Check.due("held by " + f + " of " + java.util.Arrays.toString(row), want, Make.ladder(3, row).held(3, f));
    }

    /** "the push is 0 or more": it is 0 where 10 f is 5 times the weight. */
    private static void pushOfNothing() {
        int[] row = {30, 80, 12, 3, 3, 0};
        held(row, 5, 2);
        held(row, 6, 2);
        held(row, 7, 3);
        int[] flat = {100, 80, 2, 3, 1, 200};
        held(flat, 1, 2);
        held(flat, 2, 3);
        // A push of 0 by f 0 there is none: the lightest ladder still pushes by 5 * 10.
        held(new int[] {10, 300, 1, 3, 0, 0}, 0, 0);
    }

    /** "1000 * height * (f without its sign) is at most the percents of the wall times the push". */
    private static void wallsHold() {
        // Upward: 50000 * 1 is at most 20 * (50 * 52 - 100), and just so.
        held(new int[] {10, 50, 52, 3, 1, 0}, 1, 0);
        held(new int[] {10, 50, 51, 3, 1, 0}, 1, 2);
        held(new int[] {10, 51, 52, 3, 1, 0}, 1, 2);
        // Downward: 50000 * 1 is at most 20 * (50 * 48 + 100), and just so.
        held(new int[] {10, 50, 48, 3, 1, 0}, -1, 0);
        held(new int[] {10, 50, 47, 3, 1, 0}, -1, 2);
        held(new int[] {10, 51, 48, 3, 1, 0}, -1, 2);
        // Brick: 90000 * 2 is at most 45 * (50 * 84 - 200), and 45 * (50 * 76 + 200).
        held(new int[] {10, 90, 84, 3, 2, 0}, 2, 0);
        held(new int[] {10, 90, 83, 3, 2, 0}, 2, 2);
        held(new int[] {10, 90, 76, 3, 2, 0}, -2, 0);
        held(new int[] {10, 90, 75, 3, 2, 0}, -2, 2);
        // Bark: 60000 * 4 is at most 60 * (50 * 88 - 400).
        held(new int[] {10, 60, 88, 3, 3, 0}, 4, 0);
        held(new int[] {10, 60, 87, 3, 3, 0}, 4, 2);
        // Glass holds by 0 percents, so f is 0, whatever the push is.
        int[] glass = {100, 50, 100, 3, 0, 200};
        held(glass, 0, 0);
        held(glass, 1, 2);
        held(glass, -1, 2);
    }

    /** "and if the wall is bark, f is 0 or more": its friction alone would hold much more. */
    private static void barkHoldsNoPull() {
        int[] bark = {50, 100, 100, 3, 3, 200};
        held(bark, 0, 0);
        held(bark, -1, 2);
        held(bark, -10, 2);
        held(bark, 10, 0);
        int[] brick = {50, 100, 100, 3, 2, 200};
        held(brick, -1, 0);
        held(brick, -10, 0);
        Check.due("least at bark", 1000, Make.ladder(3, bark).force(3, 0));
        Check.due("least at brick", 1000 - 14, Make.ladder(3, brick).force(3, 0));
    }

    /** "f is at most the load"; such an f always has a push below 0, too. */
    private static void upToTheLoad() {
        int[] row = {100, 50, 1, 1, 3, 200};
        held(row, 1, 3);
        held(row, 2, 7);
        LadderClimb x = Make.ladder(0, new int[] {40, 150, 30, 2, 2, 0}, 80, 5);
        Check.due("held by the load", 3, x.held(0, 110));
        Check.due("held by one more than the load", 7, x.held(0, 111));
        Check.due("held by one less than the load", 3, x.held(0, 109));
        LadderClimb y = Make.ladder(0, new int[] {10, 300, 100, 3, 2, 200}, 150, 0, 150, 0, 150, 0);
        Check.due("held by the greatest load", 3, y.held(0, 550));
        Check.due("held by more than the greatest load", 7, y.held(0, 551));
    }

    /** "100 * push is at most 10 * height * (the percents of the ground times (load less f), and 100 times the rope)". */
    private static void groundsHold() {
        // 500 * 10 * weight is at most 10 * height * percents * weight, for each kind of ground.
        held(new int[] {10, 100, 7, 0, 0, 0}, 0, 0);
        held(new int[] {10, 99, 7, 0, 0, 0}, 0, 8);
        held(new int[] {11, 100, 7, 0, 0, 0}, 0, 8);
        held(new int[] {50, 100, 100, 1, 0, 0}, 0, 0);
        held(new int[] {50, 99, 100, 1, 0, 0}, 0, 8);
        held(new int[] {51, 100, 100, 1, 0, 0}, 0, 8);
        held(new int[] {80, 100, 3, 2, 0, 0}, 0, 0);
        held(new int[] {80, 99, 3, 2, 0, 0}, 0, 8);
        held(new int[] {81, 100, 3, 2, 0, 0}, 0, 8);
        held(new int[] {60, 50, 1, 3, 0, 0}, 0, 0);
        held(new int[] {61, 50, 1, 3, 0, 0}, 0, 8);
        // The rope: 100 * 50000 is at most 10 * 50 * (5 * 100 + 100 * 95).
        held(new int[] {100, 50, 100, 0, 0, 95}, 0, 0);
        held(new int[] {100, 50, 100, 0, 0, 94}, 0, 8);
        // The same as stands tells it, by glass, where no other f could help.
        int[][] edges = {{10, 100, 7, 0}, {50, 100, 100, 1}, {80, 100, 3, 2}, {60, 50, 1, 3}};
        for (int[] e : edges) {
            Check.due("stands just so on " + e[3], 1,
                    Make.ladder(1, new int[] {e[0], e[1], e[2], e[3], 0, 0}).ladder(1, 10));
            Check.due("slips just so on " + e[3], 0,
                    Make.ladder(1, new int[] {e[0] + 1, e[1], e[2], e[3], 0, 0}).ladder(1, 10));
        }
    }

    /** "the one that is nearest to 0": 0 itself, if f of both signs hold, and else the least. */
    private static void nearestToNothing() {
        LadderClimb x = Make.ladder(1, new int[] {50, 100, 85, 1, 2, 0}, 135, 4);
        Check.due("least below 0", 1000 - 27, x.force(1, 0));
        Check.due("nearest of both signs", 1000, x.force(1, 3));
        Check.due("push by 0", 48250, x.force(1, 4));
        Check.due("the ground by 0", 220, x.force(1, 5));
        // A least f of 1: the first that is above 0.
        LadderClimb y = Make.ladder(1, new int[] {60, 100, 20, 1, 2, 0}, 80, 4);
        Check.due("nearest of those above 0", 1001, y.force(1, 3));
        Check.due("push by 1", 25200 - 600, y.force(1, 4));
        Check.due("the ground by 1", 99, y.force(1, 5));
    }

    private static void farthestForces() {
        LadderClimb x = new LadderClimb();
        Check.due("held by -1000 of a new one", 2, x.held(0, -1000));
        Check.due("held by 1000 of a new one", 1 + 2 + 4 + 8, x.held(0, 1000));
        LadderClimb y = Make.ladder(0, new int[] {100, 50, 1, 3, 3, 0});
        Check.due("held by -1000 at bark, flat", 2 + 8, y.held(0, -1000));
        Check.due("held by 1000 at bark, flat", 1 + 2 + 4, y.held(0, 1000));
        LadderClimb z = Make.ladder(0, new int[] {10, 300, 1, 3, 2, 0});
        Check.due("held by -1000, steep", 2, z.held(0, -1000));
        Check.due("held by 1000, steep", 1 + 2 + 4 + 8, z.held(0, 1000));
    }

    /** "The load is its weight and those of its people; the moment is base * (5 weight, and steps * weights)". */
    private static void loadAndMoment() {
        LadderClimb x = Make.ladder(3, new int[] {73, 300, 41, 3, 2, 200}, 31, 10, 52, 1, 67, 0);
        Check.due("load of three", 41 + 31 + 52 + 67, x.ladder(3, 7));
        Check.due("moment of three", 73 * (5 * 41 + 310 + 52), x.ladder(3, 8));
        LadderClimb y = Make.ladder(3, new int[] {100, 300, 100, 3, 2, 200}, 150, 10, 150, 10, 150, 10);
        Check.due("the greatest load", 550, y.ladder(3, 7));
        Check.due("the greatest moment", 500000, y.ladder(3, 8));
        LadderClimb z = Make.ladder(3, new int[] {10, 300, 1, 3, 2, 0});
        Check.due("the least load", 1, z.ladder(3, 7));
        Check.due("the least moment", 50, z.ladder(3, 8));
    }
}
