/** "Climbing" of the document, and who comes and goes off: where it falls, who falls, what is counted. */
public final class ClimbEdgesTest {

    public static void main(String[] args) {
        peopleHaveNumbers();
        fallsOnTheWay();
        theStepOfNow();
        countsSteps();
        allFall();
        whoGoesOffDoesNotFall();
        whoComesFalls();
        changesLetFall();
        nobodyNoFall();
        onlyThisLadderFalls();
        countsGoOn();
        Check.end();
    }

    private static void people(String what, LadderClimb x, int ladder, int... weightsAndSteps) {
        Check.due(what + ": people", weightsAndSteps.length / 2, x.ladder(ladder, 6));
        for (int i = 0; i < weightsAndSteps.length / 2; i++) {
            Check.due(what + ": weight of " + i, weightsAndSteps[2 * i], x.person(ladder, i, 0));
            Check.due(what + ": step of " + i, weightsAndSteps[2 * i + 1], x.person(ladder, i, 1));
        }
    }

    /** count(1) to count(4): people, falls, people who fell, steps. */
    private static void counts(String what, LadderClimb x, int people, int falls, int fell, int steps) {
        Check.due(what + ": all people", people, x.count(1));
        Check.due(what + ": all falls", falls, x.count(2));
        Check.due(what + ": all who fell", fell, x.count(3));
        Check.due(what + ": all steps", steps, x.count(4));
    }

    private static LadderClimb three() {
        LadderClimb x = new LadderClimb();
        x.on(2, 20);
        x.on(2, 30);
        x.on(2, 40);
        x.climb(2, 0, 1);
        x.climb(2, 1, 2);
        x.climb(2, 2, 3);
        return x;
    }

    /** "numbered from 0 in the order in which they came"; "those behind have numbers that are less by 1". */
    private static void peopleHaveNumbers() {
        people("three", three(), 2, 20, 1, 30, 2, 40, 3);
        LadderClimb first = three();
        Check.due("off the first", 2, first.off(2, 0));
        people("off the first", first, 2, 30, 2, 40, 3);
        LadderClimb second = three();
        Check.due("off the second", 2, second.off(2, 1));
        people("off the second", second, 2, 20, 1, 40, 3);
        LadderClimb third = three();
        Check.due("off the third", 2, third.off(2, 2));
        people("off the third", third, 2, 20, 1, 30, 2);
        // Whoever comes then is the last, at the step 0, whatever was on that place before.
        for (LadderClimb x : new LadderClimb[] {first, second, third}) {
            Check.due("on as the third again", 3, x.on(2, 50));
            Check.due("on as the third again: weight", 50, x.person(2, 2, 0));
            Check.due("on as the third again: step", 0, x.person(2, 2, 1));
        }
        Check.due("off", 2, first.off(2, 2));
        Check.due("off", 1, first.off(2, 1));
        people("one of three", first, 2, 30, 2);
        Check.due("off", 0, first.off(2, 0));
        people("none of three", first, 2);
        Check.due("load of none", 20, first.ladder(2, 7));
        Check.due("moment of none", 5000, first.ladder(2, 8));
        counts("off is no fall", first, 0, 0, 0, 6);
    }

    /** Tiles and glass, 50 by 150: somebody of 80 stands on the steps 0 to 8. */
    private static LadderClimb tiles(int step) {
        return Make.ladder(1, new int[] {50, 150, 20, 1, 0, 0}, 80, step);
    }

    private static void climbs(int from, int to, int want, int steps) {
        LadderClimb x = tiles(from);
        int before = x.count(4);
        String what = "climb from " + from + " to " + to;
        Check.due(what, want, x.climb(1, 0, to));
        Check.due(what + ": steps", steps, x.count(4) - before);
        Check.due(what + ": people", want < 0 ? 0 : 1, x.ladder(1, 6));
        Check.due(what + ": falls", want < 0 ? 1 : 0, x.ladder(1, 9));
        Check.due(what + ": who fell", want < 0 ? 1 : 0, x.count(3));
        if (want >= 0) {
            people(what, x, 1, 80, want);
        }
    }

    /** "If the ladder slips at a step on the way, it falls ... and climbing is over." */
    private static void fallsOnTheWay() {
        climbs(0, 8, 8, 8);
        climbs(0, 9, -1, 9);
        climbs(0, 10, -1, 9);
        climbs(7, 8, 8, 1);
        climbs(7, 9, -1, 2);
        climbs(8, 9, -1, 1);
        climbs(8, 10, -1, 1);
        climbs(8, 0, 0, 8);
        climbs(8, 7, 7, 1);
        // The first step of all: on ice 47 is just enough at the foot, and not on the step 1.
        LadderClimb ice = Make.ladder(0, new int[] {50, 150, 20, 0, 3, 0}, 47, 0);
        Check.due("climb on ice to 0", 0, ice.climb(0, 0, 0));
        Check.due("climb on ice to 10", -1, ice.climb(0, 0, 10));
        counts("climb on ice", ice, 0, 1, 1, 1);
        // The last one: with a rope of 4 the step 10 is the first that slips, with 5 none does.
        LadderClimb four = Make.ladder(0, new int[] {50, 150, 20, 1, 0, 4}, 80, 0);
        Check.due("climb with a rope of 4 to 9", 9, four.climb(0, 0, 9));
        Check.due("climb with a rope of 4 to 10", -1, four.climb(0, 0, 10));
        counts("climb with a rope of 4", four, 0, 1, 1, 10);
        LadderClimb five = Make.ladder(0, new int[] {50, 150, 20, 1, 0, 5}, 80, 0);
        Check.due("climb with a rope of 5 to 10", 10, five.climb(0, 0, 10));
        counts("climb with a rope of 5", five, 1, 0, 0, 10);
    }

    /** "(that of now is not looked at)": climbing to it takes no step, and lets nothing fall. */
    private static void theStepOfNow() {
        for (int step = 0; step <= 8; step++) {
            climbs(step, step, step, 0);
        }
        LadderClimb x = tiles(8);
        int saved = x.count(5);
        for (int i = 0; i < 3; i++) {
            Check.due("climb to the step of now", 8, x.climb(1, 0, 8));
        }
        Check.due("climb to the step of now is saved", saved == 6 ? 6 : saved + 3, x.count(5));
        counts("climb to the step of now", x, 1, 0, 0, 8);
    }

    private static void countsSteps() {
        LadderClimb x = new LadderClimb();
        x.on(0, 60);
        x.on(3, 60);
        int sum = 0;
        int at = 0;
        for (int to : new int[] {10, 0, 1, 1, 9, 2, 3, 10, 10, 5, 0}) {
            sum += Math.abs(to - at);
            at = to;
            Check.due("climb to " + to, to, x.climb(0, 0, to));
            Check.due("climb to " + to + ": steps", sum, x.count(4));
        }
        x.climb(3, 0, 4);
        Check.due("steps of both ladders", sum + 4, x.count(4));
        people("the other ladder", x, 3, 60, 4);
        x.off(0, 0);
        x.off(3, 0);
        Check.due("steps of those who went off", sum + 4, x.count(4));
    }

    /** "all its people are off it, which is counted as a fall". */
    private static void allFall() {
        for (int people = 1; people <= 3; people++) {
            int[] all = new int[2 * people];
            for (int i = 0; i < people; i++) {
                all[2 * i] = 150;
            }
            LadderClimb x = Make.ladder(3, new int[] {50, 150, 20, 0, 0, 0}, all);
            Check.due("climb of the last of " + people, -1, x.climb(3, people - 1, 10));
            Check.due("climb of the last of " + people + ": falls of the ladder", 1, x.ladder(3, 9));
            people("climb of the last of " + people, x, 3);
            Check.due("climb of the last of " + people + ": load", 20, x.ladder(3, 7));
            Check.due("climb of the last of " + people + ": moment", 5000, x.ladder(3, 8));
            Check.due("climb of the last of " + people + ": falls", 1, x.count(2));
            Check.due("climb of the last of " + people + ": who fell", people, x.count(3));
            Check.dueShare("climb of the last of " + people + ": safety", 0.0, x.safety());
            // It is the same ladder then, and somebody may come on it again.
            int[] same = {50, 150, 20, 0, 0, 0, 0};
            for (int i = 0; i < same.length; i++) {
                Check.due("behind the fall: " + i, same[i], x.ladder(3, i));
            }
            x.rope(3, 200);
            Check.due("on behind the fall", 1, x.on(3, 33));
            people("on behind the fall", x, 3, 33, 0);
        }
    }

    /** "or goes off ... it falls likewise": those who are left fall, the one who went off does not. */
    private static void whoGoesOffDoesNotFall() {
        int[] row = {50, 150, 20, 1, 0, 0};
        LadderClimb one = Make.ladder(1, row, 150, 0, 80, 10);
        Check.due("off, and one falls", 0, one.off(1, 0));
        Check.due("off, and one falls: who fell", 1, one.count(3));
        Check.due("off, and one falls: falls", 1, one.count(2));
        LadderClimb two = Make.ladder(1, row, 80, 10, 150, 0, 20, 10);
        Check.due("off, and two fall", 0, two.off(1, 1));
        Check.due("off, and two fall: who fell", 2, two.count(3));
        Check.due("off, and two fall: falls", 1, two.count(2));
        Check.due("off, and two fall: people", 0, two.ladder(1, 6));
        LadderClimb none = Make.ladder(1, row, 80, 10, 150, 0, 20, 10);
        Check.due("off from the head", 2, none.off(1, 0));
        Check.due("off from the head again", 1, none.off(1, 1));
        Check.due("off from the head: who fell", 0, none.count(3));
        // 100 * 50 * 900 is at most 1500 * 25 * 120, just so: 20 more at the foot hold 80 at the head.
        LadderClimb just = Make.ladder(1, row, 80, 10, 20, 0);
        Check.due("off, and it is just too light", 0, just.off(1, 1));
        LadderClimb still = Make.ladder(1, row, 80, 10, 20, 0, 20, 0);
        Check.due("off, and it is just heavy enough", 2, still.off(1, 1));
    }

    /** "When somebody comes on a ladder, at the step 0 ... it falls likewise". */
    private static void whoComesFalls() {
        // 100 * 50 * 100 is at most 1500 * 5 * load from the load 67 on.
        for (int weight = 20; weight <= 150; weight++) {
            LadderClimb x = new LadderClimb();
            x.kinds(0, 0, 0);
            String what = "on the ice with " + weight;
            Check.due(what, weight < 47 ? 0 : 1, x.on(0, weight));
            Check.due(what + ": people", weight < 47 ? 0 : 1, x.ladder(0, 6));
            Check.due(what + ": falls", weight < 47 ? 1 : 0, x.ladder(0, 9));
            Check.due(what + ": who fell", weight < 47 ? 1 : 0, x.count(3));
            Check.due(what + ": steps", 0, x.count(4));
        }
    }

    private static LadderClimb ofThree() {
        return Make.ladder(2, new int[] {50, 150, 20, 1, 0, 2}, 80, 10, 40, 9, 20, 0);
    }

    private static void changed(String what, LadderClimb x, int got, boolean falls) {
        Check.due(what, falls ? 1 : 0, got);
        Check.due(what + ": people", falls ? 0 : 3, x.ladder(2, 6));
        Check.due(what + ": falls", falls ? 1 : 0, x.ladder(2, 9));
        Check.due(what + ": all falls", falls ? 1 : 0, x.count(2));
        Check.due(what + ": who fell", falls ? 3 : 0, x.count(3));
    }

    /** "or the ladder is changed": base, height, weight, ground, wall and rope, each alone. */
    private static void changesLetFall() {
        // 100 * 50 * 1260 is just 1500 * (25 * 160 + 100 * 2).
        LadderClimb x = ofThree();
        changed("nothing new", x, x.put(2, 50, 150, 20), false);
        x = ofThree();
        changed("base", x, x.put(2, 51, 150, 20), true);
        x = ofThree();
        changed("base less", x, x.put(2, 49, 150, 20), false);
        x = ofThree();
        changed("height", x, x.put(2, 50, 149, 20), true);
        x = ofThree();
        changed("height more", x, x.put(2, 50, 151, 20), false);
        // Each one of its weight pushes by 5 and gives these tiles 7.5 to hold, but ice just 1.5.
        x = ofThree();
        changed("weight less", x, x.put(2, 50, 150, 19), true);
        x = ofThree();
        changed("weight more", x, x.put(2, 50, 150, 21), false);
        LadderClimb ice = Make.ladder(2, new int[] {50, 150, 20, 0, 0, 0}, 47, 0);
        Check.due("weight less on ice", 0, ice.put(2, 50, 150, 19));
        Check.due("weight more on ice", 1, ice.put(2, 50, 150, 21));
        x = ofThree();
        changed("the same ground", x, x.kinds(2, 1, 0), false);
        x = ofThree();
        changed("ground", x, x.kinds(2, 0, 0), true);
        x = ofThree();
        changed("ground better", x, x.kinds(2, 2, 0), false);
        x = ofThree();
        changed("the same rope", x, x.rope(2, 2), false);
        x = ofThree();
        changed("rope", x, x.rope(2, 1), true);
        x = ofThree();
        changed("rope more", x, x.rope(2, 3), false);
        // A wall that does not hold any more: 60 by 100, somebody of 80 on the step 4.
        int[] brick = {60, 100, 20, 1, 2, 0};
        for (int wall = 0; wall <= 3; wall++) {
            LadderClimb y = Make.ladder(2, brick, 80, 4);
            Check.due("wall " + wall, wall == 0 ? 1 : 0, y.kinds(2, 1, wall));
            Check.due("wall " + wall + ": people", wall == 0 ? 0 : 1, y.ladder(2, 6));
        }
    }

    /** "if it has people then, and slips": an empty ladder slips without a fall. */
    private static void nobodyNoFall() {
        LadderClimb x = new LadderClimb();
        Check.due("put of an empty one", 0, x.put(0, 100, 50, 100));
        Check.due("rope of an empty one", 0, x.rope(0, 24));
        Check.due("it stands by a rope of 24", 1, x.ladder(0, 10));
        Check.due("rope of an empty one, too weak", 0, x.rope(0, 10));
        Check.due("it slips", 0, x.ladder(0, 10));
        Check.due("kinds of an empty one", 0, x.kinds(0, 0, 0));
        counts("empty ladders", x, 0, 0, 0, 0);
        Check.due("standing", 3, x.count(0));
        Check.due("falls of the ladder", 0, x.ladder(0, 9));
        // The last goes off, and then it slips: nobody falls.
        LadderClimb y = Make.ladder(0, new int[] {50, 150, 20, 0, 0, 0}, 47, 0);
        Check.due("off the ice", 0, y.off(0, 0));
        Check.due("off the ice: it slips", 0, y.ladder(0, 10));
        counts("off the ice", y, 0, 0, 0, 0);
        Check.dueShare("off the ice: safety", 1.0, y.safety());
    }

    private static void onlyThisLadderFalls() {
        LadderClimb x = Make.ladder(2, new int[] {50, 150, 20, 1, 0, 0}, 80, 8, 20, 0);
        x.put(3, 100, 50, 100);
        x.on(0, 30);
        x.on(1, 40);
        x.on(1, 50);
        x.climb(1, 1, 2);
        Check.due("a fall of the ladder 2", -1, x.climb(2, 1, 10));
        people("the ladder 0 stays", x, 0, 30, 0);
        people("the ladder 1 stays", x, 1, 40, 0, 50, 2);
        people("the ladder 2 fell", x, 2);
        for (int i = 0; i < 4; i++) {
            Check.due("falls of the ladder " + i, i == 2 ? 1 : 0, x.ladder(i, 9));
        }
        counts("a fall of one", x, 3, 1, 2, 8 + 2 + 9);
        Check.due("those that stand", 3, x.count(0));
        Check.dueShare("safety of 3 and 2", 0.6, x.safety());
    }

    private static void countsGoOn() {
        LadderClimb x = new LadderClimb();
        x.kinds(1, 0, 0);
        x.kinds(3, 0, 0);
        int fell = 0;
        for (int i = 1; i <= 20; i++) {
            int ladder = i % 3 == 0 ? 3 : 1;
            Check.due("on the ice, " + i, 1, x.on(ladder, 47));
            Check.due("climb on the ice, " + i, -1, x.climb(ladder, 0, 7));
            fell++;
            counts("on the ice, " + i, x, 0, fell, fell, fell);
            Check.due("falls of 1 and 3", fell, x.ladder(1, 9) + x.ladder(3, 9));
            Check.due("falls of 3", i / 3, x.ladder(3, 9));
        }
    }
}
