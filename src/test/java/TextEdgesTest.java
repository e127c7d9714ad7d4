/** "Input text" of the document: what may come next, place by place, and what play does at its edges. */
public final class TextEdgesTest {

    private static final String DIGITS = "0123456789";

    /** A text, and each character that may come behind it. */
    private static final String[][] NEXT = {
        {"", "0123"},
        {"0", "uorx"}, {"1", "uorx"}, {"2", "uorx"}, {"3", "uorx"},
        {"0x", ";"}, {"0x;", "0123"}, {"0x;3", "uorx"}, {"3x;2x;1x;0x", ";"},
        // A step, 0 to 10.
        {"0u", DIGITS}, {"0u0", ";"}, {"0u1", "0;"}, {"0u2", ";"}, {"0u3", ";"}, {"0u4", ";"}, {"0u5", ";"},
        {"0u6", ";"}, {"0u7", ";"}, {"0u8", ";"}, {"0u9", ";"}, {"0u10", ";"}, {"0u10;", "0123"},
        // A weight, 20 to 150.
        {"1o", "123456789"}, {"1o1", "012345"}, {"1o2", DIGITS}, {"1o3", DIGITS}, {"1o9", DIGITS},
        {"1o10", DIGITS}, {"1o11", DIGITS}, {"1o14", DIGITS}, {"1o15", "0"}, {"1o20", ";"}, {"1o21", ";"},
        {"1o99", ";"}, {"1o100", ";"}, {"1o149", ";"}, {"1o150", ";"}, {"1o20;", "0123"},
        // A rope, 0 to 200.
        {"2r", DIGITS}, {"2r0", ";"}, {"2r1", DIGITS + ";"}, {"2r2", DIGITS + ";"}, {"2r3", DIGITS + ";"},
        {"2r9", DIGITS + ";"}, {"2r10", DIGITS + ";"}, {"2r19", DIGITS + ";"}, {"2r20", "0;"}, {"2r21", ";"},
        {"2r30", ";"}, {"2r99", ";"}, {"2r100", ";"}, {"2r199", ";"}, {"2r200", ";"}, {"2r200;", "0123"},
        // A second part begins as the first one does, whatever number was before.
        {"2r200;1u", DIGITS}, {"2r200;1u1", "0;"}, {"0u0;1o", "123456789"}, {"1o150;2r", DIGITS}, {"1o150;2r0", ";"}};

    public static void main(String[] args) {
        for (String[] row : NEXT) {
            next(row[0], row[1]);
        }
        firstOfSeveral();
        buffer();
        complete();
        impossible();
        partsThatFall();
        playsEachWork();
        playIsOneCall();
        Check.end();
    }

    private static LadderClimb typed(String text) {
        LadderClimb x = new LadderClimb();
        Check.type(x, text);
        return x;
    }

    /** Every character that the buffer takes; a ";" or the end comes just behind what is whole. */
    private static void next(String text, String may) {
        Check.due("firstError of " + text, text.length(), typed(text).firstError());
        for (char c = 33; c <= 126; c++) {
            LadderClimb x = typed(text + c);
            int due = may.indexOf(c) >= 0 ? text.length() + 1 : text.length();
            Check.due("firstError of " + text + c, due, x.firstError());
            // What comes behind an error changes nothing.
            if (due == text.length()) {
                Check.type(x, ";0x");
                Check.due("firstError of " + text + c + ";0x", due, x.firstError());
                Check.badArgument(x, "play " + text + c + ";0x", x::play);
            }
        }
        LadderClimb x = typed(text);
        if (may.indexOf(';') < 0) {
            Check.badArgument(x, "play " + text, x::play);
        } else {
            x.play();
            Check.due("play " + text + " clears it", 0, x.clearBuffer());
        }
    }

    private static void firstOfSeveral() {
        Check.due("firstError at the first place", 0, typed("!!!").firstError());
        Check.due("firstError of several", 3, typed("0u0000u99;4").firstError());
        Check.due("firstError at the last place", 5, typed("0u10;4").firstError());
        Check.due("firstError of none", 6, typed("0u10;3").firstError());
        Check.due("firstError of nothing", 0, new LadderClimb().firstError());
        // At the 60th character, and in none of 60.
        String most = "0x;0x;0x;0x;0x;0x;0x;0x;0x;0x;0x;0x;0x;0x;0x;0x;0x;0x;0x;0";
        Check.due("firstError at the 59th place", 58, typed(most + "xx").firstError() - 1);
        Check.due("firstError at the 60th place", 59, typed(most + "x0").firstError());
        Check.due("firstError of none in 60", 60, typed(most + "x;").firstError());
        Check.due("firstError of none in 59", 59, typed(most + "u").firstError());
        Check.due("firstError at the 59th of 59", 58, typed(most + "0").firstError());
    }

    /** "The buffer has at most 60 characters." */
    private static void buffer() {
        LadderClimb x = new LadderClimb();
        for (int n = 1; n <= 60; n++) {
            Check.due("append " + n, n, x.append('0'));
        }
        Check.badState(x, "append the 61st", () -> x.append('0'));
        Check.badState(x, "append the 61st again", () -> x.append('0'));
        Check.due("clearBuffer of 60", 60, x.clearBuffer());
        Check.due("clearBuffer of none", 0, x.clearBuffer());
        Check.due("append the first again", 1, x.append('~'));
        Check.due("clearBuffer of one", 1, x.clearBuffer());
        Check.due("append to 60 saves nothing", 0, x.count(5));
        // Characters of before are forgotten.
        Check.type(x, "0u5;0u6");
        x.clearBuffer();
        Check.type(x, "1r7");
        Check.due("firstError behind clearBuffer", 3, x.firstError());
        Check.due("play behind clearBuffer", 1, x.play());
        Check.due("play behind clearBuffer did it", 7, x.ladder(1, 5));
        Check.due("firstError behind play", 0, x.firstError());
        Check.badArgument(x, "play again", x::play);
    }

    /** Works that are not complete: firstError has none to tell, but play refuses them. */
    private static void complete() {
        String[] texts = {"", "3", "3u", "3o", "3r", "3o1", "3o2", "3o9", "3o10;", "3o15", "3x;", "3x;3", "3x;3u"};
        for (String text : texts) {
            LadderClimb x = typed(text);
            if (!text.equals("3o10;")) {
                Check.due("firstError of " + text, text.length(), x.firstError());
            }
            Check.badArgument(x, "play " + text, x::play);
            Check.due("play " + text + ": nothing is saved", 0, x.count(5));
            Check.due("play " + text + ": the buffer stays", text.length(), x.clearBuffer());
        }
        // 60 characters that are whole, and 60 that want more.
        String most = "0r10;0r10;0r10;0r10;0r10;0r10;0r10;0r10;0r10;0r10;0r10;";
        Check.due("play 60 characters", 12, typed(most + "0r200").play());
        LadderClimb more = typed(most + "0r20;");
        Check.due("firstError of 60 that want more", 60, more.firstError());
        Check.badArgument(more, "play 60 that want more", more::play);
        Check.due("play 60 that want more: the buffer stays", 60, more.clearBuffer());
        // 20 parts are the most that fit.
        LadderClimb x = typed("0o20;0x;0o20;0x;0o20;0x;0o20;0x;0o20;0x;0o20;0x;0o20;0x;0r1");
        Check.due("play 15 parts", 15, x.play());
        LadderClimb y = typed("0x;0x;0x;1x;1x;1x;2x;2x;2x;3x;3x;3x;0x;0x;0x;0x;0x;0x;0x;0x");
        for (int i = 0; i < 12; i++) {
            y.on(i / 3, 30);
        }
        Check.due("play 12 parts of 20", 12, y.play());
        Check.due("play 12 parts of 20: people", 0, y.count(1));
    }

    private static void stops(String text, int want, int people, int steps) {
        LadderClimb x = typed(text);
        Check.due("play " + text, want, x.play());
        Check.due("play " + text + ": people", people, x.count(1));
        Check.due("play " + text + ": steps", steps, x.count(4));
        Check.due("play " + text + ": no rope behind it", 0, x.ladder(3, 5));
        Check.due("play " + text + ": saved once", 1, x.count(5));
        Check.due("play " + text + ": buffer", 0, x.clearBuffer());
        Check.due("play " + text + ": undo", 0, x.undo());
        Check.due("play " + text + ": people then", 0, x.count(1));
    }

    /** "up to the first part that is not possible (somebody climbs or goes off where nobody is, or comes as the fourth)". */
    private static void impossible() {
        stops("0u0;3r9", 0, 0, 0);
        stops("0u10;3r9", 0, 0, 0);
        stops("0x;3r9", 0, 0, 0);
        stops("1o20;0u1;3r9", 1, 1, 0);
        stops("1o20;0x;3r9", 1, 1, 0);
        stops("0o20;0x;0u1;3r9", 2, 0, 0);
        stops("0o20;0x;0x;3r9", 2, 0, 0);
        stops("0o20;0o20;0u4;0o20;0o20;3r9", 4, 3, 4);
        stops("0o20;0o20;0o20;0o150;3r9", 3, 3, 0);
        stops("0o20;0o20;0o20;1o20;0x;0o20;0o20;3r9", 6, 4, 0);
        stops("0o20;0u0;0u0;1u0;3r9", 3, 1, 0);
    }

    /** A part by which a ladder falls is done, and what comes behind it, too. */
    private static void partsThatFall() {
        LadderClimb x = new LadderClimb();
        x.kinds(0, 0, 0);
        Check.type(x, "0o46;0o47;0u10;0o46;3r9");
        Check.due("play with three falls", 5, x.play());
        Check.due("play with three falls: falls", 3, x.ladder(0, 9));
        Check.due("play with three falls: who fell", 3, x.count(3));
        Check.due("play with three falls: steps", 1, x.count(4));
        Check.due("play with three falls: the last part", 9, x.ladder(3, 5));
        Check.due("play with three falls: people", 0, x.count(1));
        Check.type(x, "0o47;0u10;0u10;3r8");
        Check.due("play up to where nobody is left", 2, x.play());
        Check.due("play up to where nobody is left: rope", 9, x.ladder(3, 5));
        Check.due("play up to where nobody is left: who fell", 4, x.count(3));
        Check.due("undo of a play with a fall", 2, x.undo());
        Check.due("undo of a play with a fall: who fell", 3, x.count(3));
        Check.due("undo of all falls", 1, x.undo());
        Check.due("undo of all falls: falls", 0, x.count(2));
        Check.due("undo of all falls: steps", 0, x.count(4));
    }

    private static void playsEachWork() {
        for (int ladder = 0; ladder < 4; ladder++) {
            int l = ladder;
            LadderClimb x = typed(l + "o20;" + l + "o30;" + l + "o150;" + l + "u10;" + l + "r200");
            Check.due("play on " + l, 5, x.play());
            Check.due("play on " + l + ": the person 0 climbs", 10, x.person(l, 0, 1));
            Check.due("play on " + l + ": not the person 1", 0, x.person(l, 1, 1));
            Check.due("play on " + l + ": the order", 20, x.person(l, 0, 0));
            Check.due("play on " + l + ": the order", 30, x.person(l, 1, 0));
            Check.due("play on " + l + ": the order", 150, x.person(l, 2, 0));
            Check.due("play on " + l + ": rope", 200, x.ladder(l, 5));
            for (int left = 2; left >= 0; left--) {
                Check.type(x, l + "x");
                Check.due("play x on " + l, 1, x.play());
                Check.due("play x on " + l + ": people", left, x.ladder(l, 6));
                if (left > 0) {
                    Check.due("play x: the first one stays", 20, x.person(l, 0, 0));
                    Check.due("play x: the one behind", left == 2 ? 30 : 20, x.person(l, left - 1, 0));
                }
            }
            Check.due("play x on " + l + ": no fall", 0, x.count(2));
            Check.type(x, l + "r0");
            Check.due("play r0 on " + l, 1, x.play());
            Check.due("play r0 on " + l + ": rope", 0, x.ladder(l, 5));
            Check.type(x, l + "o80;" + l + "u10;" + l + "u0;" + l + "u1");
            Check.due("play up and down on " + l, 4, x.play());
            Check.due("play up and down on " + l + ": steps", 10 + 10 + 10 + 1, x.count(4));
        }
    }

    /** "Undoable, as one call, also if nothing is done." */
    private static void playIsOneCall() {
        LadderClimb x = new LadderClimb();
        x.on(3, 44);
        long before = x.digest();
        Check.type(x, "0o20;0u3;1r5;3x;2o150;2u10");
        Check.due("play", 6, x.play());
        Check.due("play: saved", 2, x.count(5));
        Check.due("undo of play", 1, x.undo());
        Check.due("undo of play: all", before, x.digest());
        Check.type(x, "0x;3x");
        Check.due("play of nothing", 0, x.play());
        Check.due("play of nothing is saved", 2, x.count(5));
        Check.due("play of nothing clears the buffer", 0, x.clearBuffer());
        Check.due("undo of play of nothing", 1, x.undo());
        Check.due("undo of play of nothing: all", before, x.digest());
        // Nothing is saved for each part: with six states kept, one play drops just one.
        for (int rope = 1; rope <= 6; rope++) {
            x.rope(0, rope);
        }
        Check.type(x, "1r1;1r2;1r3;1r4;1r5;1r6;1r7;1r8");
        Check.due("play of eight parts", 8, x.play());
        for (int left = 5; left >= 0; left--) {
            Check.due("undo to " + left, left, x.undo());
            Check.due("undo to " + left + ": rope", left + 1, x.ladder(0, 5));
            Check.due("undo to " + left + ": rope of 1", 0, x.ladder(1, 5));
        }
    }
}
