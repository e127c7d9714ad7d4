import java.util.regex.Matcher;
import java.util.regex.Pattern;

/** Promises 8 to 11: append, clearBuffer, firstError, play. */
public final class TextsTest {

    private static final Pattern WEIGHT = Pattern.compile("1[0-4][0-9]|150|[2-9][0-9]");
    private static final Pattern ROPE = Pattern.compile("200|1[0-9][0-9]|[1-9][0-9]|[0-9]");
    private static final Pattern STEP = Pattern.compile("10|[0-9]");

    public static void main(String[] args) {
        appends();
        clears();
        findsErrors();
        readsNumbers();
        readsLongTexts();
        plays();
        playStops();
        playFalls();
        playRefuses();
        Check.end();
    }

    private static void appends() {
        LadderClimb x = new LadderClimb();
        Check.due("append 33", 1, x.append(33));
        Check.due("append 126", 2, x.append(126));
        Check.badArgument(x, "append 32", () -> x.append(32));
        Check.badArgument(x, "append 127", () -> x.append(127));
        Check.badArgument(x, "append -1", () -> x.append(-1));
        Check.badArgument(x, "append greatest int", () -> x.append(Integer.MAX_VALUE));
        for (int i = 3; i <= 60; i++) {
            Check.due("append", i, x.append('0'));
        }
        Check.badState(x, "append the 61st", () -> x.append('0'));
        Check.badArgument(x, "append the 61st, 32", () -> x.append(32));
        Check.due("append saves nothing", 0, x.count(5));
        Check.due("the length behind refused ones", 60, x.clearBuffer());
        Check.due("append behind clearBuffer", 1, x.append('1'));
    }

    private static void clears() {
        LadderClimb x = new LadderClimb();
        Check.due("clearBuffer of an empty one", 0, x.clearBuffer());
        Check.type(x, "0u5");
        Check.due("clearBuffer", 3, x.clearBuffer());
        Check.due("clearBuffer again", 0, x.clearBuffer());
        Check.due("clearBuffer: firstError", 0, x.firstError());
        Check.due("clearBuffer saves nothing", 0, x.count(5));
        Check.badArgument(x, "play behind clearBuffer", x::play);
    }

    private static void error(String text, int want) {
        LadderClimb x = new LadderClimb();
        Check.type(x, text);
        long before = x.digest();
        Check.due("firstError of " + text, want, x.firstError());
        Check.due("firstError of " + text + " again", want, x.firstError());
        Check.due("firstError of " + text + ": digest behind it", before, x.digest());
    }

    private static void findsErrors() {
        error("", 0);
        error("0", 1);
        error("3", 1);
        error("4", 0);
        error("9", 0);
        error("/", 0);
        error(";", 0);
        error("u", 0);
        error("00", 1);
        error("0;", 1);
        error("0v5", 1);
        error("0U5", 1);
        error("0x", 2);
        error("0x0", 2);
        error("0x;", 3);
        error("0x;;", 3);
        error("0x;3", 4);
        error("0x;4", 3);
        error("0x;3x;2x;1x", 11);
        error("0u;", 2);
        error("0uu", 2);
        error("0u-", 2);
        error("0u:", 2);
        error("0u0;0u", 6);
        error("0u00", 3);
        error("0u01", 3);
        error("0u1", 3);
        error("0u10", 4);
        error("0u11", 3);
        error("0u100", 4);
        error("0u9;", 4);
        error("0u90", 3);
        error("0u10;0u11;!", 8);
        error("0o;", 2);
        error("0o020", 2);
        error("0o19", 3);
        error("0o1;", 3);
        error("0o10;", 4);
        error("0o100;", 6);
        error("0o2;", 3);
        error("0o20;", 5);
        error("0o200", 4);
        error("0o150;", 6);
        error("0o151", 4);
        error("0o16", 3);
        error("0o1500", 5);
        error("0r0;", 4);
        error("0r00", 3);
        error("0r200", 5);
        error("0r201", 4);
        error("0r21;", 5);
        error("0r210", 4);
        error("0r2000", 5);
        error("0r199", 5);
        error("!0x", 0);
    }

    /** Every number of up to four digits behind each work, in front of the end and of a ";". */
    private static void readsNumbers() {
        for (int number = 0; number < 2100; number++) {
            readsNumber('u', STEP, number);
            readsNumber('o', WEIGHT, number);
            readsNumber('r', ROPE, number);
        }
    }

    private static void readsNumber(char work, Pattern pattern, int number) {
        String digits = "" + number;
        int taken = 0;
        while (taken < digits.length()) {
            Matcher m = pattern.matcher(digits.substring(0, taken + 1));
            if (!m.matches() && !m.hitEnd()) {
                break;
            }
            taken++;
        }
        boolean whole = pattern.matcher(digits).matches();
        LadderClimb x = new LadderClimb();
        x.rope(2, 200);
        x.on(2, 20);
        Check.type(x, "2" + work + digits);
        Check.due("firstError of 2" + work + digits, 2 + taken, x.firstError());
        x.append(';');
        int length = 2 + digits.length();
        Check.due("firstError of 2" + work + digits + ";", whole ? length + 1 : 2 + taken, x.firstError());
        x.clearBuffer();
        Check.type(x, "2" + work + digits);
        if (whole) {
            Check.due("play 2" + work + digits, 1, x.play());
            Check.due("play 2" + work + digits + " did it", number,
                    work == 'u' ? x.person(2, 0, 1) : work == 'o' ? x.person(2, 1, 0) : x.ladder(2, 5));
        } else {
            Check.badArgument(x, "play 2" + work + digits, x::play);
        }
    }

    private static void readsLongTexts() {
        LadderClimb x = new LadderClimb();
        for (int i = 0; i < 12; i++) {
            Check.type(x, "0r10;");
        }
        // Works of any length may begin so, though nothing more fits into the buffer.
        Check.due("firstError of 60 characters that want more", 60, x.firstError());
        Check.badArgument(x, "play 60 characters that want more", x::play);
        x.clearBuffer();
        for (int i = 0; i < 11; i++) {
            Check.type(x, "0r10;");
        }
        Check.type(x, "1r200");
        Check.due("firstError of 60 characters", 60, x.firstError());
        Check.due("play 60 characters", 12, x.play());
        Check.due("play 60 characters: the last part", 200, x.ladder(1, 5));
        // The 20 parts of the shortest kind.
        for (int i = 0; i < 19; i++) {
            Check.type(x, "0x;");
        }
        Check.type(x, "0x");
        Check.due("play where nobody is", 0, x.play());
    }

    private static void plays() {
        LadderClimb x = new LadderClimb();
        Check.type(x, "0o80;0o60;1o20;0u10;2r7;0x;1x;0u4");
        Check.due("play", 8, x.play());
        Check.due("play: buffer", 0, x.clearBuffer());
        Check.due("play: people on 0", 1, x.ladder(0, 6));
        Check.due("play: the person 0 stays, with the greatest number off", 80, x.person(0, 0, 0));
        Check.due("play: the person 0 climbed", 4, x.person(0, 0, 1));
        Check.due("play: people on 1", 0, x.ladder(1, 6));
        Check.due("play: rope", 7, x.ladder(2, 5));
        Check.due("play: steps", 16, x.count(4));
        Check.due("play: saved once", 1, x.count(5));
        Check.due("play undone, as one", 0, x.undo());
        Check.due("play undone: people", 0, x.count(1));
        Check.due("play undone: rope", 0, x.ladder(2, 5));
        Check.due("play undone: the buffer stays empty", 0, x.clearBuffer());
    }

    private static void played(String text, int want, int people) {
        LadderClimb x = new LadderClimb();
        Check.type(x, text);
        Check.due("play " + text, want, x.play());
        Check.due("play " + text + ": people", people, x.count(1));
        Check.due("play " + text + ": buffer", 0, x.clearBuffer());
        Check.due("play " + text + ": saved", 1, x.count(5));
    }

    private static void playStops() {
        played("0u5", 0, 0);
        played("0x", 0, 0);
        played("0x;0o80", 0, 0);
        played("1r3;0u5;0o80", 1, 0);
        played("0o80;0o80;0o80;0o80;1o80", 3, 3);
        played("0o80;0o80;0o80;1o80", 4, 4);
        played("0o80;0x;0x;0o80", 2, 0);
        played("0o80;1u5;0u5", 1, 1);
    }

    private static void playFalls() {
        LadderClimb x = new LadderClimb();
        x.kinds(1, 1, 0);
        Check.type(x, "1o80;1u10;1o60;1r3");
        Check.due("play goes on behind a fall", 4, x.play());
        Check.due("play: falls", 1, x.count(2));
        Check.due("play: fallen", 1, x.count(3));
        Check.due("play: steps up to the fall", 9, x.count(4));
        Check.due("play: who came then", 60, x.person(1, 0, 0));
        Check.due("play: rope", 3, x.ladder(1, 5));
        Check.type(x, "1u10;1u1;1o30");
        Check.due("play stops where nobody is left", 1, x.play());
        Check.due("play stops where nobody is left: people", 0, x.count(1));
        Check.due("play stops where nobody is left: fallen", 2, x.count(3));
        // A rope that is let go, and somebody who goes off, let it fall, too.
        LadderClimb y = new LadderClimb();
        y.kinds(1, 1, 0);
        Check.type(y, "1r5;1o80;1u10;1r4;1u1");
        Check.due("play: a rope that is too weak", 4, y.play());
        Check.due("play: a rope that is too weak: fallen", 1, y.count(3));
        y.kinds(2, 1, 0);
        Check.type(y, "2o80;2o150;2u10;2x;2u1");
        Check.due("play: off from the foot", 4, y.play());
        Check.due("play: off from the foot: fallen", 2, y.count(3));
        y.kinds(3, 0, 0);
        Check.type(y, "3o20;3x");
        Check.due("play: on the ice", 1, y.play());
        Check.due("play: on the ice: fallen", 3, y.count(3));
    }

    private static void playRefuses() {
        String[] texts = {"", "0", "0u", "0o", "0o1", "0o2", "0o15", "0r", "0x;", "0u5;", "0u5;3", "0u11", "4x", "0x;;0x",
            "x", "0x0x", "0o80;0u5;0!"};
        for (String text : texts) {
            LadderClimb x = new LadderClimb();
            x.on(0, 80);
            Check.type(x, text);
            Check.badArgument(x, "play " + text, x::play);
            Check.due("play " + text + ": the buffer stays", text.length(), x.clearBuffer());
            Check.due("play " + text + ": nothing is saved", 1, x.count(5));
        }
    }
}
