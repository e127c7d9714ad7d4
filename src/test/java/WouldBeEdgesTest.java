/** Promises 18 to 24 at their edges: highest, neededRope, bestBase, riskiest, walls, safety, digest. */
public final class WouldBeEdgesTest {

    public static void main(String[] args) {
        highestFromEachStep();
        highestOfEachOne();
        ropes();
        bases();
        offGrid();
        risks();
        wallMasks();
        looksLeaveAll();
        shares();
        digests();
        Check.end();
    }

    /** Tiles and glass, 50 by 150: somebody of 80 can stand on the steps 0 to 8, with a rope of 4 to 9. */
    private static void highestFromEachStep() {
        for (int step = 0; step <= 8; step++) {
            LadderClimb x = Make.ladder(1, new int[] {50, 150, 20, 1, 0, 0}, 80, step);
            Check.due("highest from " + step, 8, x.highest(1, 0));
            Check.due("highest from " + step + " can be climbed", 8, x.climb(1, 0, 8));
        }
        for (int step = 0; step <= 9; step++) {
            LadderClimb x = Make.ladder(1, new int[] {50, 150, 20, 1, 0, 4}, 80, step);
            Check.due("highest with a rope of 4 from " + step, 9, x.highest(1, 0));
        }
        for (int step = 0; step <= 10; step++) {
            LadderClimb x = Make.ladder(1, new int[] {50, 150, 20, 1, 0, 5}, 80, step);
            Check.due("highest with a rope of 5 from " + step, 10, x.highest(1, 0));
        }
        // On ice the first step is the one that slips.
        Check.due("highest at the foot", 0, Make.ladder(1, new int[] {50, 150, 20, 0, 0, 0}, 47, 0).highest(1, 0));
        Check.due("highest of one step", 1, Make.ladder(1, new int[] {50, 150, 20, 0, 0, 0}, 150, 0).highest(1, 0));
        Check.due("highest of no more step", 1, Make.ladder(1, new int[] {50, 150, 20, 0, 0, 0}, 150, 1).highest(1, 0));
    }

    /** Each one climbs alone, while the others stay where they are. */
    private static void highestOfEachOne() {
        // 100 * 50 * (100 + 80 * 5 + 40 * 6) is at most 1500 * 25 * 140: there is room for 310 more.
        LadderClimb x = Make.ladder(1, new int[] {50, 150, 20, 1, 0, 0}, 80, 5, 40, 6);
        Check.due("highest of the first", 8, x.highest(1, 0));
        Check.due("highest of the second", 10, x.highest(1, 1));
        LadderClimb y = Make.ladder(1, new int[] {50, 150, 20, 1, 0, 0}, 80, 5, 60, 9);
        Check.due("highest of the first beside 60", 7, y.highest(1, 0));
        Check.due("highest of the second beside 80", 10, y.highest(1, 1));
        LadderClimb z = Make.ladder(1, new int[] {50, 150, 20, 1, 0, 0}, 80, 8, 20, 8);
        Check.due("highest of the third beside two", 8, z.highest(1, 0));
        Check.due("on", 3, z.on(1, 150));
        Check.due("highest of the first then", 10, z.highest(1, 0));
        Check.due("highest of the second then", 10, z.highest(1, 1));
        Check.due("highest of the third then", 7, z.highest(1, 2));
        Check.due("climb to the highest", 7, z.climb(1, 2, 7));
        Check.due("highest of the first behind that", 8, z.highest(1, 0));
        Check.due("climb over the highest", -1, z.climb(1, 2, 8));
    }

    private static void rope(int want, int[] row, int... people) {
        String what = "neededRope of " + java.util.Arrays.toString(row) + java.util.Arrays.toString(people);
        LadderClimb x = Make.ladder(2, row, people);
        Check.due(what, want, x.neededRope(2));
        Check.due(what + ": the rope is as before", row[5], x.ladder(2, 5));
        Check.due(what + ": this rope lets nobody fall", 0, x.rope(2, want));
        Check.due(what + ": it stands by it", 1, x.ladder(2, 10));
        Check.due(what + ": it is the same then", want, x.neededRope(2));
        if (want > 0) {
            Check.due(what + ": one less lets fall", people.length > 0 ? 1 : 0, x.rope(2, want - 1));
            x.undo();
            if (people.length == 0) {
                x.rope(2, want - 1);
                Check.due(what + ": it slips by one less", 0, x.ladder(2, 10));
            }
        }
    }

    /** "the least rope, 0 to 200, by which it stands". */
    private static void ropes() {
        rope(0, new int[] {50, 150, 20, 2, 2, 0});
        rope(0, new int[] {50, 150, 20, 2, 2, 200});
        rope(0, new int[] {50, 100, 100, 1, 0, 0});
        rope(1, new int[] {50, 99, 100, 1, 0, 1});
        rope(1, new int[] {35, 270, 40, 0, 0, 0});
        rope(1, new int[] {80, 280, 5, 0, 3, 0});
        rope(1, new int[] {90, 110, 35, 1, 2, 200}, 20, 2);
        rope(1, new int[] {60, 100, 65, 2, 2, 12}, 150, 8, 30, 8);
        rope(95, new int[] {100, 50, 100, 0, 0, 0});
        rope(199, new int[] {75, 50, 100, 0, 0, 199}, 100, 2, 110, 7, 120, 0);
        rope(199, new int[] {85, 50, 20, 1, 3, 200}, 140, 3, 140, 10, 140, 9);
        rope(200, new int[] {85, 50, 25, 0, 1, 200}, 150, 10);
        rope(200, new int[] {100, 60, 60, 1, 0, 200}, 150, 7, 110, 3);
        rope(200, new int[] {100, 50, 10, 1, 0, 200}, 120, 6, 90, 1, 150, 4);
        // One more is no rope at all: with somebody heavier it falls, whatever the rope is.
        LadderClimb x = Make.ladder(2, new int[] {85, 50, 25, 0, 1, 200}, 150, 9);
        Check.due("highest by the longest rope", 10, x.highest(2, 0));
        x.put(2, 86, 50, 25);
        Check.due("highest by the longest rope, flatter", 9, x.highest(2, 0));
    }

    private static void base(int want, int[] row, int... people) {
        LadderClimb x = Make.ladder(0, row, people);
        String what = "bestBase of " + java.util.Arrays.toString(row) + java.util.Arrays.toString(people);
        Check.due(what, want, x.bestBase(0));
        Check.due(what + ": the base is as before", row[0], x.ladder(0, 0));
        // What each base would do, tried as a ladder of its own.
        int best = -1;
        int most = 0;
        for (int base = 10; base <= 100; base += 5) {
            LadderClimb y = Make.ladder(0, row, people);
            int fell = y.put(0, base, row[1], row[2]);
            int forces = fell == 1 ? 0 : y.force(0, 2);
            if (forces > most) {
                best = base;
                most = forces;
            }
        }
        Check.due(what + ", tried", want, best);
    }

    /** "of 10, 15, 20 and so on to 100 ... of several the least; NONE if it slips by all of them". */
    private static void bases() {
        // One base that is best, at each end and beside it.
        base(10, new int[] {30, 120, 100, 0, 1, 0});
        base(10, new int[] {10, 140, 55, 0, 1, 0}, 70, 8);
        base(15, new int[] {55, 170, 60, 0, 2, 0});
        base(15, new int[] {10, 240, 5, 0, 2, 0}, 110, 7);
        base(95, new int[] {30, 70, 70, 2, 2, 74});
        base(95, new int[] {90, 290, 85, 1, 2, 0}, 140, 7, 100, 9);
        base(100, new int[] {25, 190, 75, 1, 3, 170});
        base(100, new int[] {90, 290, 85, 3, 3, 0}, 110, 8, 70, 9, 90, 4);
        // Several that are alike: the least.
        base(10, new int[] {30, 210, 30, 3, 0, 0});
        base(10, new int[] {45, 300, 45, 1, 0, 142});
        base(10, new int[] {85, 260, 70, 2, 0, 0}, 20, 0);
        base(15, new int[] {100, 240, 90, 0, 2, 0});
        base(15, new int[] {10, 240, 25, 0, 1, 0}, 140, 6);
        base(95, new int[] {25, 220, 90, 3, 3, 0});
        // On ice by glass a ladder of 100 stands by the base 10 alone, one of 99 by none.
        base(10, new int[] {90, 100, 50, 0, 0, 0});
        base(-1, new int[] {90, 99, 50, 0, 0, 0});
        base(-1, new int[] {10, 50, 100, 0, 0, 0});
        base(10, new int[] {10, 50, 100, 0, 0, 5});
        base(-1, new int[] {10, 50, 100, 0, 0, 4});
    }

    /** A base between those that are tried may be better; it is not looked at. */
    private static void offGrid() {
        LadderClimb x = Make.ladder(0, new int[] {13, 300, 20, 3, 2, 0});
        Check.due("bestBase of a base of 13", x.bestBase(0), Make.ladder(0, new int[] {10, 300, 20, 3, 2, 0}).bestBase(0));
        Check.due("the base of 13 stays", 13, x.ladder(0, 0));
        // By 90 one f holds, by 85 and 95 more or none; 89 and 91 are never tried.
        for (int base : new int[] {89, 90, 91}) {
            LadderClimb y = Make.ladder(0, new int[] {base, 55, 95, 3, 2, 0});
            Check.due("bestBase of " + base, 0, y.bestBase(0) % 5);
            Check.due("the base of " + base + " stays", base, y.ladder(0, 0));
        }
    }

    private static void risk(int want, int[] row, int... people) {
        LadderClimb x = Make.ladder(3, row, people);
        String what = "riskiest of " + java.util.Arrays.toString(row) + java.util.Arrays.toString(people);
        Check.due(what, want, x.riskiest(3));
        Check.due(what + ": the people are as before", people.length / 2, x.ladder(3, 6));
        for (int i = 0; i < people.length / 2; i++) {
            Check.due(what + ": weight of " + i, people[2 * i], x.person(3, i, 0));
            Check.due(what + ": step of " + i, people[2 * i + 1], x.person(3, i, 1));
        }
        // What would be without each of them, with that one off (a fall is no force at all).
        int best = -1;
        int most = -1;
        for (int i = 0; i < people.length / 2; i++) {
            LadderClimb y = Make.ladder(3, row, people);
            boolean fell = y.off(3, i) == 0 && people.length > 2;
            int forces = fell ? 0 : y.force(3, 2);
            if (forces > most) {
                best = i;
                most = forces;
            }
        }
        Check.due(what + ", tried", want, best);
    }

    /** "of several the lowest; NONE without people". */
    private static void risks() {
        risk(-1, new int[] {50, 150, 20, 2, 2, 0});
        risk(-1, new int[] {100, 50, 100, 0, 0, 0});
        risk(0, new int[] {50, 150, 20, 2, 2, 0}, 80, 5);
        // It slips without the only one, which is the one without whom it is held by the most f, by none.
        risk(0, new int[] {50, 150, 20, 0, 0, 0}, 47, 0);
        // One of two, two alike.
        risk(0, new int[] {15, 150, 65, 3, 3, 134}, 140, 2, 100, 10);
        risk(1, new int[] {100, 280, 5, 3, 3, 0}, 30, 5, 90, 1);
        risk(1, new int[] {60, 80, 45, 1, 0, 50}, 30, 0, 140, 8);
        risk(0, new int[] {35, 300, 80, 0, 3, 0}, 60, 5, 130, 0);
        risk(0, new int[] {75, 120, 85, 1, 0, 198}, 80, 1, 110, 10);
        // One of three.
        risk(0, new int[] {20, 90, 75, 1, 3, 200}, 110, 8, 150, 9, 140, 7);
        risk(1, new int[] {35, 300, 75, 2, 2, 53}, 110, 2, 60, 2, 20, 10);
        risk(2, new int[] {90, 290, 85, 3, 3, 0}, 110, 8, 70, 9, 90, 4);
        risk(2, new int[] {45, 60, 85, 1, 0, 0}, 40, 1, 110, 2, 60, 4);
        // Several of three: the lowest of the first two, of the last two, of the outer two, of all.
        risk(0, new int[] {15, 120, 95, 1, 1, 126}, 130, 2, 140, 1, 80, 10);
        risk(1, new int[] {100, 260, 100, 1, 1, 113}, 50, 6, 130, 1, 20, 6);
        risk(1, new int[] {30, 260, 40, 0, 0, 0}, 80, 2, 80, 6, 40, 2);
        risk(0, new int[] {35, 80, 35, 3, 3, 81}, 120, 2, 130, 8, 130, 2);
        risk(0, new int[] {25, 130, 35, 0, 0, 150}, 150, 9, 50, 1, 130, 8);
    }

    private static void walls(int want, int[] row, int... people) {
        LadderClimb x = Make.ladder(1, row, people);
        String what = "walls of " + java.util.Arrays.toString(row) + java.util.Arrays.toString(people);
        Check.due(what, want, x.walls(1));
        Check.due(what + ": the wall is as before", row[4], x.ladder(1, 4));
        for (int kind = 0; kind < 4; kind++) {
            LadderClimb y = Make.ladder(1, row, people);
            y.kinds(1, row[3], kind);
            boolean stands = people.length > 0 ? y.ladder(1, 6) > 0 : y.ladder(1, 10) == 1;
            Check.due(what + ": the bit " + kind, want >> kind & 1, stands ? 1 : 0);
        }
    }

    /** "with the bit k for the kind k": no wall, bark alone, bark and brick, all but glass, all. */
    private static void wallMasks() {
        walls(0, new int[] {50, 50, 10, 1, 2, 0});
        walls(0, new int[] {55, 170, 60, 0, 2, 0});
        walls(8, new int[] {60, 60, 40, 2, 1, 0});
        walls(8, new int[] {80, 80, 75, 2, 3, 0});
        walls(8, new int[] {80, 140, 80, 1, 3, 0}, 50, 0, 90, 3, 90, 10);
        walls(12, new int[] {85, 60, 75, 3, 1, 0});
        walls(12, new int[] {75, 50, 60, 1, 2, 0}, 150, 1);
        walls(14, new int[] {85, 70, 25, 3, 0, 0});
        walls(14, new int[] {75, 110, 85, 1, 1, 0}, 20, 4, 150, 3);
        walls(15, new int[] {70, 80, 95, 3, 2, 0});
        walls(15, new int[] {35, 300, 75, 2, 2, 53}, 110, 2, 60, 2, 20, 10);
    }

    private static LadderClimb loaded() {
        LadderClimb x = Make.ladder(1, new int[] {60, 100, 65, 2, 2, 12}, 150, 8, 30, 8);
        x.on(0, 80);
        x.put(3, 100, 50, 100);
        Check.type(x, "0x;1");
        return x;
    }

    /** "what would be; nothing is changed". */
    private static void looksLeaveAll() {
        LadderClimb x = loaded();
        for (int ladder = 0; ladder < 4; ladder++) {
            x.neededRope(ladder);
            x.bestBase(ladder);
            x.riskiest(ladder);
            x.walls(ladder);
            for (int person = 0; person < x.ladder(ladder, 6); person++) {
                x.highest(ladder, person);
            }
        }
        x.safety();
        x.digest();
        String got = Make.trace(x);
        String want = Make.trace(loaded());
        Check.due("looks change nothing: " + got + ", due is " + want, 1, want.equals(got) ? 1 : 0);
    }

    /** "divided by these and those who fell so far; 1.0 without any". */
    private static void shares() {
        LadderClimb x = new LadderClimb();
        Check.dueShare("safety without any", 1.0, x.safety());
        x.put(0, 100, 50, 100);
        Check.dueShare("safety beside one that slips", 1.0, x.safety());
        x.on(1, 20);
        Check.dueShare("safety of one who is on", 1.0, x.safety());
        x.off(1, 0);
        Check.dueShare("safety of one who went off", 1.0, x.safety());
        x.on(0, 20);
        Check.dueShare("safety of one who fell", 0.0, x.safety());
        x.on(1, 20);
        Check.dueShare("safety of one and one", 0.5, x.safety());
        x.on(0, 20);
        Check.dueShare("safety of one and two", 1.0 / 3.0, x.safety());
        for (int i = 2; i <= 8; i++) {
            x.on(1 + i % 3, 20);
            Check.dueShare("safety of " + i + " and two", (double) i / (i + 2), x.safety());
        }
        LadderClimb y = new LadderClimb();
        y.kinds(0, 0, 0);
        for (int i = 1; i <= 9; i++) {
            y.on(1 + i % 3, 20);
        }
        for (int fell = 1; fell <= 6; fell++) {
            Check.badArgument(y, "on with 19", () -> y.on(0, 19));
            y.on(0, 20);
            Check.dueShare("safety of nine and " + fell, 9.0 / (9 + fell), y.safety());
        }
    }

    private static long add(long hash, long... values) {
        long h = hash;
        for (long v : values) {
            h = 31 * h + v;
        }
        return h;
    }

    /** The digest of a new object with a text, told value by value. */
    private static void digests() {
        String most = "~!~!~!~!~!~!~!~!~!~!~!~!~!~!~!~!~!~!~!~!~!~!~!~!~!~!~!~!~!~!";
        for (int length = 0; length <= 60; length++) {
            long h = add(3617, 4, 0, 0, 0, 0, 0);
            for (int ladder = 0; ladder < 4; ladder++) {
                h = add(h, 50, 150, 20, 2, 2, 0, 0, 20, 5000, 0, 1);
                h = add(h, 999, 1001, 3, 1000, 5000, 20);
                h = add(h, 0, 100, -1, 15);
            }
            // By -10 and by 10 brick does not hold: 1500000 is more than 45 * 10000, and than 45 * 0.
            h = add(h, 2, 0, 2, 0x3FF0000000000000L, length);
            LadderClimb x = new LadderClimb();
            for (int i = 0; i < length; i++) {
                x.append(most.charAt(i));
                h = add(h, most.charAt(i));
            }
            Check.due("digest of a new one with " + length + " characters", h, x.digest());
        }
        // Nobody is on it, and one fell: the bits of 0.0 are all 0.
        LadderClimb x = new LadderClimb();
        x.put(3, 100, 50, 100);
        x.on(3, 20);
        long h = add(3617, 3, 0, 1, 1, 0, 2);
        for (int ladder = 0; ladder < 3; ladder++) {
            h = add(h, 50, 150, 20, 2, 2, 0, 0, 20, 5000, 0, 1);
            h = add(h, 999, 1001, 3, 1000, 5000, 20);
            h = add(h, 0, 100, -1, 15);
        }
        h = add(h, 100, 50, 100, 2, 2, 0, 0, 100, 50000, 1, 0);
        h = add(h, -1, -1, 0, -1, -1, -1);
        h = add(h, x.neededRope(3), x.bestBase(3), -1, 0);
        h = add(h, 2, 0, 2, 0, 0);
        Check.due("digest of one that fell", h, x.digest());
    }
}
