/**
 * Each range of an argument: every value that is allowed, the first that is not on both sides, and
 * behind a refused call a look at all that must not have changed, the saved states, too.
 */
public final class RangesTest {

    private static final Class<? extends RuntimeException> INDEX = IndexOutOfBoundsException.class;
    private static final Class<? extends RuntimeException> ARGUMENT = IllegalArgumentException.class;
    private static final Class<? extends RuntimeException> STATE = IllegalStateException.class;

    interface Call {
        long of(LadderClimb x, int value);
    }

    interface Look {
        long at(LadderClimb x);
    }

    interface Setup {
        LadderClimb make();
    }

    public static void main(String[] args) {
        ladders();
        people();
        texts();
        looks();
        persons();
        wouldBe();
        named();
        states();
        Check.end();
    }

    /** Two saved states, people on all ladders (two on the ladder 1), a text that wants more. */
    private static LadderClimb few() {
        LadderClimb x = new LadderClimb();
        Check.type(x, "0o80;0u2;1o80;1o60;1u3;2o20;2o30;3o99;3u1");
        x.play();
        x.rope(3, 7);
        Check.type(x, "0u1;1");
        Check.due("few: people", 6, x.count(1));
        Check.due("few: saved", 2, x.count(5));
        return x;
    }

    /** The same people, more states than are kept, and room for one character. */
    private static LadderClimb many() {
        LadderClimb x = few();
        for (int rope = 1; rope <= 9; rope++) {
            x.rope(3, rope);
        }
        x.clearBuffer();
        Check.type(x, "0x;0x;0x;0x;0x;0x;0x;0x;0x;0x;0x;0x;0x;0x;0x;0x;0x;0x;0x;0x");
        Check.due("many: saved", 6, x.count(5));
        return x;
    }

    /** As many, with three people on the ladder 1 and a buffer of 60 characters. */
    private static LadderClimb full() {
        LadderClimb x = many();
        x.on(1, 90);
        x.append(';');
        return x;
    }

    private static void range(String what, int least, int most, Class<?> due, Call call, Look taken) {
        for (int value = least; value <= most; value++) {
            if (value > least + 100 && value < most - 100) {
                continue;
            }
            allows(what, RangesTest::few, value, call, taken);
        }
        allows(what, RangesTest::many, least, call, taken);
        allows(what, RangesTest::many, most, call, taken);
        for (int value : new int[] {least - 1, most + 1, Integer.MIN_VALUE, Integer.MAX_VALUE}) {
            refuses(what, RangesTest::few, value, due, call);
            refuses(what, RangesTest::many, value, due, call);
        }
    }

    private static void allows(String what, Setup setup, int value, Call call, Look taken) {
        LadderClimb x = setup.make();
        try {
            call.of(x, value);
            if (taken != null) {
                Check.due(what + " " + value + " behind it", value, taken.at(x));
            }
        } catch (RuntimeException e) {
            Check.fault(what + " " + value + " threw " + e);
        }
    }

    private static void refuses(String what, Setup setup, int value, Class<?> due, Call call) {
        LadderClimb x = setup.make();
        String name = what + " " + value;
        try {
            Check.fault(name + " answered " + call.of(x, value) + ", due is " + due.getSimpleName());
        } catch (RuntimeException e) {
            Check.due(name + " throws " + e.getClass().getSimpleName(), 1, e.getClass() == due ? 1 : 0);
        }
        String want = Make.trace(setup.make());
        String got = Make.trace(x);
        Check.due(name + " changes nothing: " + got + ", due is " + want, 1, want.equals(got) ? 1 : 0);
    }

    private static void ladders() {
        range("put ladder", 0, 3, INDEX, (x, v) -> x.put(v, 40, 140, 30), null);
        range("put base", 10, 100, ARGUMENT, (x, v) -> x.put(1, v, 300, 30), x -> x.ladder(1, 0));
        range("put height", 50, 300, ARGUMENT, (x, v) -> x.put(1, 10, v, 30), x -> x.ladder(1, 1));
        range("put weight", 1, 100, ARGUMENT, (x, v) -> x.put(1, 10, 300, v), x -> x.ladder(1, 2));
        range("kinds ladder", 0, 3, INDEX, (x, v) -> x.kinds(v, 3, 1), null);
        range("kinds ground", 0, 3, ARGUMENT, (x, v) -> x.kinds(1, v, 1), x -> x.ladder(1, 3));
        range("kinds wall", 0, 3, ARGUMENT, (x, v) -> x.kinds(1, 3, v), x -> x.ladder(1, 4));
        range("rope ladder", 0, 3, INDEX, (x, v) -> x.rope(v, 50), null);
        range("rope", 0, 200, ARGUMENT, (x, v) -> x.rope(1, v), x -> x.ladder(1, 5));
    }

    private static void people() {
        range("on ladder", 0, 3, INDEX, (x, v) -> x.on(v, 50), null);
        range("on weight", 20, 150, ARGUMENT, (x, v) -> x.on(1, v), x -> x.person(1, 2, 0));
        range("off ladder", 0, 3, INDEX, (x, v) -> x.off(v, 0), null);
        range("off person", 0, 1, INDEX, (x, v) -> x.off(1, v), null);
        range("climb ladder", 0, 3, INDEX, (x, v) -> x.climb(v, 0, 2), null);
        range("climb person", 0, 1, INDEX, (x, v) -> x.climb(1, v, 2), null);
        range("climb step", 0, 10, ARGUMENT, (x, v) -> x.climb(1, 0, v), x -> x.person(1, 0, 1));
        range("climb step of the second", 0, 10, ARGUMENT, (x, v) -> x.climb(1, 1, v), x -> x.person(1, 1, 1));
    }

    private static void texts() {
        range("append", 33, 126, ARGUMENT, (x, v) -> x.append(v), null);
    }

    private static void looks() {
        range("ladder ladder", 0, 3, INDEX, (x, v) -> x.ladder(v, 10), null);
        range("ladder what", 0, 10, ARGUMENT, (x, v) -> x.ladder(1, v), null);
        range("person ladder", 0, 3, INDEX, (x, v) -> x.person(v, 0, 1), null);
        range("person person", 0, 1, INDEX, (x, v) -> x.person(1, v, 1), null);
        range("person what", 0, 1, ARGUMENT, (x, v) -> x.person(1, 1, v), null);
        range("force ladder", 0, 3, INDEX, (x, v) -> x.force(v, 5), null);
        range("force what", 0, 5, ARGUMENT, (x, v) -> x.force(1, v), null);
        range("held ladder", 0, 3, INDEX, (x, v) -> x.held(v, 0), null);
        range("held f", -1000, 1000, ARGUMENT, (x, v) -> x.held(1, v), null);
        range("count", 0, 5, ARGUMENT, (x, v) -> x.count(v), null);
    }

    /** The greatest number of a person is one less than how many there are: nobody, one, two, three. */
    private static void persons() {
        for (int people = 0; people <= 3; people++) {
            int n = people;
            for (int person : new int[] {-1, n, n + 1, 3, Integer.MIN_VALUE, Integer.MAX_VALUE}) {
                if (person >= 0 && person < n) {
                    continue;
                }
                String what = " of " + n + " person";
                refuses("off" + what, () -> crowd(n), person, INDEX, (x, v) -> x.off(2, v));
                refuses("climb" + what, () -> crowd(n), person, INDEX, (x, v) -> x.climb(2, v, 1));
                refuses("person" + what, () -> crowd(n), person, INDEX, (x, v) -> x.person(2, v, 0));
                refuses("highest" + what, () -> crowd(n), person, INDEX, (x, v) -> x.highest(2, v));
            }
            for (int person = 0; person < n; person++) {
                int p = person;
                Check.due("person " + p + " of " + n, 40 + p, crowd(n).person(2, p, 0));
                Check.due("highest of person " + p + " of " + n, 10, crowd(n).highest(2, p));
                Check.due("climb of person " + p + " of " + n, 4, crowd(n).climb(2, p, 4));
                Check.due("off of person " + p + " of " + n, n - 1, crowd(n).off(2, p));
            }
        }
    }

    private static LadderClimb crowd(int people) {
        LadderClimb x = new LadderClimb();
        x.on(0, 70);
        for (int i = 0; i < people; i++) {
            x.on(2, 40 + i);
        }
        return x;
    }

    private static void wouldBe() {
        range("highest ladder", 0, 3, INDEX, (x, v) -> x.highest(v, 0), null);
        range("highest person", 0, 1, INDEX, (x, v) -> x.highest(1, v), null);
        range("neededRope", 0, 3, INDEX, (x, v) -> x.neededRope(v), null);
        range("bestBase", 0, 3, INDEX, (x, v) -> x.bestBase(v), null);
        range("riskiest", 0, 3, INDEX, (x, v) -> x.riskiest(v), null);
        range("walls", 0, 3, INDEX, (x, v) -> x.walls(v), null);
    }

    private static void both(String what, Class<?> due, Look call) {
        for (Setup setup : new Setup[] {RangesTest::few, RangesTest::many, RangesTest::full}) {
            refuses(what, setup, 0, due, (x, v) -> call.at(x));
        }
    }

    /** "If several exceptions apply, the one that is named first in the throws clause is thrown." */
    private static void named() {
        for (int none : new int[] {-1, 4}) {
            both("put on no ladder, and the base, too", INDEX, x -> x.put(none, 9, 150, 20));
            both("put on no ladder, and the height, too", INDEX, x -> x.put(none, 50, 301, 20));
            both("put on no ladder, and the weight, too", INDEX, x -> x.put(none, 50, 150, 0));
            both("kinds on no ladder, and the ground, too", INDEX, x -> x.kinds(none, -1, 0));
            both("kinds on no ladder, and the wall, too", INDEX, x -> x.kinds(none, 0, 4));
            both("rope on no ladder, and the rope, too", INDEX, x -> x.rope(none, 201));
            both("on no ladder, and the weight, too", INDEX, x -> x.on(none, 151));
            both("climb no ladder, and the step, too", INDEX, x -> x.climb(none, 0, -1));
            both("climb no ladder, nobody, and the step, too", INDEX, x -> x.climb(none, 3, 11));
            both("off no ladder, and nobody", INDEX, x -> x.off(none, 3));
            both("ladder of no ladder, and what, too", INDEX, x -> x.ladder(none, 11));
            both("person of no ladder, and what, too", INDEX, x -> x.person(none, 0, 2));
            both("force of no ladder, and what, too", INDEX, x -> x.force(none, 6));
            both("held of no ladder, and f, too", INDEX, x -> x.held(none, -1001));
        }
        for (int nobody : new int[] {-1, 3}) {
            both("climb of nobody, and the step, too", INDEX, x -> x.climb(1, nobody, 11));
            both("climb of nobody, and the step below 0, too", INDEX, x -> x.climb(1, nobody, -1));
            both("person of nobody, and what, too", INDEX, x -> x.person(1, nobody, 2));
            both("person of nobody, and what below 0, too", INDEX, x -> x.person(1, nobody, -1));
        }
    }

    /** The calls that a state refuses, and what is named before that. */
    private static void states() {
        for (int weight : new int[] {20, 90, 150}) {
            refuses("on as the fourth", RangesTest::full, weight, STATE, (x, v) -> x.on(1, v));
        }
        refuses("on as the fourth, and the weight", RangesTest::full, 19, ARGUMENT, (x, v) -> x.on(1, v));
        refuses("on as the fourth, and the weight", RangesTest::full, 151, ARGUMENT, (x, v) -> x.on(1, v));
        allows("on as the third", RangesTest::many, 20, (x, v) -> x.on(1, v), x -> x.person(1, 2, 0));
        allows("on another ladder beside one with three", RangesTest::full, 20,
                (x, v) -> x.on(2, v), x -> x.person(2, 2, 0));
        allows("on where one of three went off", RangesTest::full, 3, (x, v) -> x.off(1, 0) + x.on(1, 50),
                x -> x.ladder(1, 6));
        for (int code : new int[] {33, '0', 126}) {
            refuses("append as the 61st", RangesTest::full, code, STATE, (x, v) -> x.append(v));
        }
        for (int code : new int[] {32, 127, -1, 0}) {
            refuses("append as the 61st, and the code", RangesTest::full, code, ARGUMENT, (x, v) -> x.append(v));
        }
        allows("append as the 60th", RangesTest::many, 60, (x, v) -> x.append(33), x -> x.clearBuffer());
        refuses("play of works that want more", RangesTest::few, 0, ARGUMENT, (x, v) -> x.play());
        refuses("play of 60 characters that want more", RangesTest::full, 0, ARGUMENT, (x, v) -> x.play());
        refuses("play of nothing", LadderClimb::new, 0, ARGUMENT, (x, v) -> x.play());
        refuses("play of nothing", () -> crowd(3), 0, ARGUMENT, (x, v) -> x.play());
        refuses("undo of nothing", LadderClimb::new, 0, STATE, (x, v) -> x.undo());
        refuses("undo behind the last", RangesTest::undone, 0, STATE, (x, v) -> x.undo());
    }

    private static LadderClimb undone() {
        LadderClimb x = many();
        for (int left = 6; left > 0; left--) {
            x.undo();
        }
        return x;
    }
}
