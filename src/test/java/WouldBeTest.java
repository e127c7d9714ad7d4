/** Promises 18 to 22: highest, neededRope, bestBase, riskiest, walls. */
public final class WouldBeTest {

    public static void main(String[] args) {
        highestTells();
        neededRopeTells();
        bestBaseTells();
        riskiestTells();
        wallsTells();
        wrongLadders();
        Check.end();
    }

    private static LadderClimb leaning(int ground, int wall) {
        LadderClimb x = new LadderClimb();
        x.put(1, 60, 100, 20);
        x.kinds(1, ground, wall);
        x.on(1, 80);
        return x;
    }

    private static void highestTells() {
        LadderClimb x = leaning(1, 2);
        Check.due("highest", 4, x.highest(1, 0));
        Check.due("highest leaves the step", 0, x.person(1, 0, 1));
        x.climb(1, 0, 4);
        Check.due("highest from there", 4, x.highest(1, 0));
        x.climb(1, 0, 2);
        Check.due("highest from below", 4, x.highest(1, 0));
        x.kinds(1, 2, 2);
        Check.due("highest on wood", 7, x.highest(1, 0));
        x.kinds(1, 3, 2);
        Check.due("highest on gravel", 10, x.highest(1, 0));
        x.climb(1, 0, 10);
        Check.due("highest at the head", 10, x.highest(1, 0));
        x.on(1, 150);
        Check.due("highest of the second", 10, x.highest(1, 1));
        LadderClimb ice = leaning(0, 2);
        Check.due("highest on ice", 0, ice.highest(1, 0));
        Check.noLadder(ice, "highest(-1, 0)", () -> ice.highest(-1, 0));
        Check.noLadder(ice, "highest(4, 0)", () -> ice.highest(4, 0));
        Check.noLadder(ice, "highest(1, -1)", () -> ice.highest(1, -1));
        Check.noLadder(ice, "highest(1, 1)", () -> ice.highest(1, 1));
        Check.noLadder(ice, "highest(0, 0)", () -> ice.highest(0, 0));
    }

    private static void neededRopeTells() {
        LadderClimb x = new LadderClimb();
        Check.due("neededRope of one that stands", 0, x.neededRope(0));
        x.kinds(0, 1, 0);
        x.rope(0, 100);
        x.on(0, 80);
        x.climb(0, 0, 10);
        Check.due("neededRope", 5, x.neededRope(0));
        Check.due("neededRope leaves the rope", 100, x.ladder(0, 5));
        Check.due("neededRope is enough", 0, x.rope(0, 5));
        Check.due("neededRope with just this rope", 5, x.neededRope(0));
        x.put(1, 100, 50, 100);
        x.kinds(1, 0, 0);
        // 100 * 50000 <= 500 * (5 * 100 + 100 rope).
        Check.due("neededRope on ice", 95, x.neededRope(1));
        x.kinds(1, 2, 2);
        Check.due("neededRope on wood", 24, x.neededRope(1));
        x.kinds(1, 3, 3);
        Check.due("neededRope on gravel", 3, x.neededRope(1));
        x.rope(1, 2);
        Check.due("neededRope: less is too little", 0, x.ladder(1, 10));
        x.rope(1, 3);
        Check.due("neededRope: this is enough", 1, x.ladder(1, 10));
    }

    private static void bestBaseTells() {
        LadderClimb x = leaning(1, 2);
        x.climb(1, 0, 4);
        Check.due("bestBase", 50, x.bestBase(1));
        Check.due("bestBase leaves the base", 60, x.ladder(1, 0));
        x.kinds(1, 1, 1);
        Check.due("bestBase at plaster", 55, x.bestBase(1));
        x.climb(1, 0, 3);
        x.kinds(1, 1, 0);
        Check.due("bestBase at glass: the least of several", 10, x.bestBase(1));
        x.put(2, 100, 50, 100);
        x.kinds(2, 0, 0);
        Check.due("bestBase of none", -1, x.bestBase(2));
        x.kinds(2, 3, 3);
        Check.due("bestBase of one that slips now", 60, x.bestBase(2));
        Check.due("bestBase: the greatest", 100, new LadderClimb().bestBase(0));
    }

    private static void riskiestTells() {
        LadderClimb x = leaning(1, 2);
        Check.due("riskiest without people", -1, x.riskiest(0));
        x.climb(1, 0, 4);
        Check.due("riskiest of one", 0, x.riskiest(1));
        x.on(1, 60);
        x.on(1, 150);
        x.climb(1, 1, 2);
        x.climb(1, 2, 3);
        // Without each of them 39, 48 and 31 forces hold.
        Check.due("riskiest", 1, x.riskiest(1));
        Check.due("riskiest leaves the people", 3, x.ladder(1, 6));
        Check.due("riskiest leaves their order", 60, x.person(1, 1, 0));
        x.off(1, 1);
        LadderClimb y = new LadderClimb();
        for (int i = 0; i < 3; i++) {
            y.on(0, 70);
            y.climb(0, i, 5);
        }
        Check.due("riskiest of three alike", 0, y.riskiest(0));
        // Without the one at the foot it slips; without the one at the head it stands.
        LadderClimb z = new LadderClimb();
        z.kinds(0, 1, 0);
        z.on(0, 150);
        z.on(0, 80);
        z.climb(0, 1, 10);
        Check.due("riskiest is the second", 1, z.riskiest(0));
        // It slips without anybody, and also without each of two: the lowest.
        z.kinds(2, 0, 0);
        z.on(2, 47);
        Check.due("riskiest where it slips without", 0, z.riskiest(2));
    }

    private static void wallsTells() {
        LadderClimb x = leaning(1, 2);
        Check.due("walls of all kinds", 15, x.walls(1));
        x.climb(1, 0, 4);
        Check.due("walls but glass", 14, x.walls(1));
        Check.due("walls leaves the wall", 2, x.ladder(1, 4));
        x.put(2, 100, 50, 100);
        Check.due("walls of none", 0, x.walls(2));
        x.kinds(3, 0, 0);
        Check.due("walls on ice", 0, x.walls(3));
        x.rope(3, 20);
        Check.due("walls on ice with a rope", 15, x.walls(3));
    }

    private static void wrongLadders() {
        LadderClimb x = new LadderClimb();
        for (int ladder : new int[] {-1, 4, Integer.MIN_VALUE, Integer.MAX_VALUE}) {
            Check.noLadder(x, "neededRope(" + ladder + ")", () -> x.neededRope(ladder));
            Check.noLadder(x, "bestBase(" + ladder + ")", () -> x.bestBase(ladder));
            Check.noLadder(x, "riskiest(" + ladder + ")", () -> x.riskiest(ladder));
            Check.noLadder(x, "walls(" + ladder + ")", () -> x.walls(ladder));
            Check.noLadder(x, "highest(" + ladder + ", 0)", () -> x.highest(ladder, 0));
        }
    }
}
