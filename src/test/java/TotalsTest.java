/** Promises 23 and 24: safety, digest. */
public final class TotalsTest {

    public static void main(String[] args) {
        safetyTells();
        digestTells();
        digestTellsHeld();
        digestOfEachShare();
        Check.end();
    }

    private static LadderClimb onIce(int fallen) {
        LadderClimb x = new LadderClimb();
        x.kinds(3, 0, 0);
        for (int i = 0; i < fallen; i++) {
            x.on(3, 20);
        }
        return x;
    }

    private static void safetyTells() {
        Check.dueShare("safety of a new object", 1.0, new LadderClimb().safety());
        LadderClimb x = onIce(1);
        Check.dueShare("safety without people", 0.0, x.safety());
        x.on(0, 80);
        Check.dueShare("safety of one and one", 0.5, x.safety());
        x.on(0, 80);
        Check.dueShare("safety of two and one", 2.0 / 3.0, x.safety());
        x.on(1, 80);
        x.on(3, 20);
        x.on(3, 20);
        Check.dueShare("safety of three and three", 0.5, x.safety());
        x.undo();
        x.undo();
        x.undo();
        x.off(0, 0);
        x.off(0, 0);
        Check.dueShare("safety without people again", 0.0, x.safety());
        LadderClimb y = new LadderClimb();
        y.on(2, 80);
        Check.dueShare("safety of one", 1.0, y.safety());
    }

    private static void digestTells() {
        LadderClimb x = new LadderClimb();
        Check.due("digest of a new object", hash(x, ""), x.digest());
        long before = x.digest();
        x.on(0, 80);
        x.climb(0, 0, 4);
        x.on(1, 50);
        x.on(1, 60);
        x.put(2, 100, 50, 100);
        Check.type(x, "0x;!~");
        Check.due("digest", hash(x, "0x;!~"), x.digest());
        Check.due("digest again", hash(x, "0x;!~"), x.digest());
        Check.due("digest is another", 1, before == x.digest() ? 0 : 1);
        Check.due("digest changes nothing", 5, x.clearBuffer());
    }

    /** On the ladder 0 the f of -10 to 9 hold: held by -10, 0 and 10 are not alike. */
    private static void digestTellsHeld() {
        LadderClimb x = new LadderClimb();
        x.kinds(0, 2, 1);
        x.on(0, 140);
        x.climb(0, 0, 10);
        Check.due("held by -11", 2, x.held(0, -11));
        Check.due("held by -10", 0, x.held(0, -10));
        Check.due("held by 9", 0, x.held(0, 9));
        Check.due("held by 10", 2, x.held(0, 10));
        Check.due("digest of those held", hash(x, ""), x.digest());
    }

    /** The bits of safety, which the class counts by itself, for many people who fell. */
    private static void digestOfEachShare() {
        for (int fallen = 0; fallen <= 60; fallen++) {
            for (int on = 0; on <= 9; on++) {
                LadderClimb x = onIce(fallen);
                for (int i = 0; i < on; i++) {
                    x.on(i / 3, 20 + i);
                }
                Check.due("digest of " + on + " beside " + fallen + " fallen", hash(x, ""), x.digest());
            }
        }
    }

    private static long hash(LadderClimb x, String buffer) {
        long h = 3617;
        for (int i = 0; i <= 5; i++) {
            h = 31 * h + x.count(i);
        }
        for (int l = 0; l < 4; l++) {
            for (int i = 0; i <= 10; i++) {
                h = 31 * h + x.ladder(l, i);
            }
            for (int i = 0; i <= 5; i++) {
                h = 31 * h + x.force(l, i);
            }
            for (int p = 0; p < x.ladder(l, 6); p++) {
                h = 31 * h + x.person(l, p, 0);
                h = 31 * h + x.person(l, p, 1);
                h = 31 * h + x.highest(l, p);
            }
            h = 31 * h + x.neededRope(l);
            h = 31 * h + x.bestBase(l);
            h = 31 * h + x.riskiest(l);
            h = 31 * h + x.walls(l);
        }
        h = 31 * h + x.held(0, -10);
        h = 31 * h + x.held(0, 0);
        h = 31 * h + x.held(0, 10);
        h = 31 * h + Double.doubleToLongBits(x.safety());
        h = 31 * h + buffer.length();
        for (char c : buffer.toCharArray()) {
            h = 31 * h + c;
        }
        return h;
    }
}
