import java.util.Random;

/** Promises 1 to 24: random runs of some 500 calls, each answer held against that of Model. */
public final class ModelTest {

    private static final String[] TEXTS = {
        "0o80;0u10", "1o150;1o150;1o150;1u10;1o20", "2r200;2o20;2u10;2u0;2x;2x;2u1", "3x", "0u10;1u10;2u10;3u10",
        "0o20;0o20;0o20;0x;0x;0x;0x", "3o99;3u9;3r0;3r10;3x", "1r0;1o150;1u9;1x;0x;2x;3x", "0r1;0r19;0r200;2o149"};
    private static final String CODES = "0123uorx;0123456789;;55";

    private final Random random;
    private final LadderClimb x = new LadderClimb();
    private final Model m = new Model();
    private int calls = 0;

    private ModelTest(long seed) {
        random = new Random(seed);
    }

    public static void main(String[] args) {
        for (int seed = 1; seed <= 120; seed++) {
            new ModelTest(seed).run("seed " + seed);
        }
        Check.end();
    }

    private void run(String name) {
        same(name + ": digest of a new object", x::digest, m::digest);
        int looked = 0;
        // One step makes at most 60 calls, and an object is used for 512.
        while (calls < 450) {
            step(name + ", call " + calls + ": ");
            if (calls / 80 > looked) {
                looked = calls / 80;
                same(name + ", behind call " + calls + ": digest", x::digest, m::digest);
            }
        }
    }

    private void same(String what, Check.Call got, Check.Call want) {
        calls++;
        String a = outcome(got);
        String b = outcome(want);
        if (!a.equals(b)) {
            Check.fault(what + " answered " + a + ", due is " + b);
        }
        Check.due(what + " (equal)", 1, a.equals(b) ? 1 : 0);
    }

    private static String outcome(Check.Call call) {
        try {
            return "" + call.answer();
        } catch (RuntimeException e) {
            return "throws." + e.getClass().getSimpleName();
        }
    }

    /** Now and then a number just outside, else one from least to most, its ends more often. */
    private int number(int least, int most) {
        switch (random.nextInt(40)) {
            case 0: return least - 1;
            case 1: return most + 1;
            case 2: return random.nextBoolean() ? Integer.MIN_VALUE : Integer.MAX_VALUE;
            case 3: case 4: return least;
            case 5: case 6: return most;
            default: return least + random.nextInt(most - least + 1);
        }
    }

    private void step(String name) {
        int kind = random.nextInt(100);
        int l = number(0, 3);
        if (kind < 45) {
            change(name, l, kind);
        } else if (kind < 55) {
            text(name);
        } else {
            look(name, l, random.nextInt(11));
        }
    }

    private void change(String name, int l, int kind) {
        int a = number(0, 2);
        if (kind < 6) {
            int base = number(10, 100);
            int height = number(50, 300);
            int weight = number(1, 100);
            same(name + "put " + l + " " + base + " " + height + " " + weight,
                    () -> x.put(l, base, height, weight), () -> m.put(l, base, height, weight));
        } else if (kind < 10) {
            int ground = number(0, 3);
            int wall = number(0, 3);
            same(name + "kinds " + l + " " + ground + " " + wall,
                    () -> x.kinds(l, ground, wall), () -> m.kinds(l, ground, wall));
        } else if (kind < 14) {
            int rope = number(0, 200);
            same(name + "rope " + l + " " + rope, () -> x.rope(l, rope), () -> m.rope(l, rope));
        } else if (kind < 24) {
            int weight = number(20, 150);
            same(name + "on " + l + " " + weight, () -> x.on(l, weight), () -> m.on(l, weight));
        } else if (kind < 28) {
            same(name + "off " + l + " " + a, () -> x.off(l, a), () -> m.off(l, a));
        } else if (kind < 42) {
            int step = number(0, 10);
            same(name + "climb " + l + " " + a + " " + step, () -> x.climb(l, a, step), () -> m.climb(l, a, step));
        } else {
            same(name + "undo", x::undo, m::undo);
        }
    }

    private void text(String name) {
        if (random.nextInt(4) == 0) {
            same(name + "clearBuffer", x::clearBuffer, m::clearBuffer);
        }
        boolean whole = random.nextBoolean();
        String told = whole ? TEXTS[random.nextInt(TEXTS.length)] : "";
        for (int i = random.nextInt(9); i > 0 && !whole; i--) {
            told += CODES.charAt(random.nextInt(CODES.length()));
        }
        for (int i = 0; i < told.length(); i++) {
            int code = told.charAt(i);
            same(name + "append " + code, () -> x.append(code), () -> m.append(code));
        }
        int odd = number(33, 126);
        if (random.nextInt(6) == 0) {
            same(name + "append " + odd, () -> x.append(odd), () -> m.append(odd));
        }
        same(name + "firstError of " + told, x::firstError, m::firstError);
        same(name + "play " + told, x::play, m::play);
    }

    private void look(String name, int l, int which) {
        int a = number(0, 2);
        int what = number(0, 10);
        int few = number(0, 5);
        int f = random.nextBoolean() ? number(-1000, 1000) : number(-40, 40);
        switch (which) {
            case 0: same(name + "ladder " + l + " " + what, () -> x.ladder(l, what), () -> m.ladder(l, what)); break;
            case 1: same(name + "person " + l + " " + a + " " + few,
                    () -> x.person(l, a, few), () -> m.person(l, a, few)); break;
            case 2: same(name + "force " + l + " " + few, () -> x.force(l, few), () -> m.force(l, few)); break;
            case 3: same(name + "held " + l + " " + f, () -> x.held(l, f), () -> m.held(l, f)); break;
            case 4: same(name + "count " + few, () -> x.count(few), () -> m.count(few)); break;
            case 5: same(name + "highest " + l + " " + a, () -> x.highest(l, a), () -> m.highest(l, a)); break;
            case 6: same(name + "neededRope " + l, () -> x.neededRope(l), () -> m.neededRope(l)); break;
            case 7: same(name + "bestBase " + l, () -> x.bestBase(l), () -> m.bestBase(l)); break;
            case 8: same(name + "riskiest " + l, () -> x.riskiest(l), () -> m.riskiest(l)); break;
            case 9: same(name + "walls " + l, () -> x.walls(l), () -> m.walls(l)); break;
            default: same(name + "safety", () -> Double.doubleToLongBits(x.safety()),
                    () -> Double.doubleToLongBits(m.safety()));
        }
    }
}
