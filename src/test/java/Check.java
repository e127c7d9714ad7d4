/** What the tests share: compares answers, prints those that are wrong, ends with exit code 1. */
final class Check {

    interface Call {
        long answer();
    }

    private static int asked = 0;
    private static int wrong = 0;

    private Check() {
    }

    static void due(String what, long want, long got) {
        asked++;
        if (want != got) {
            fault(what + " answered " + got + ", due is " + want);
        }
    }

    static void dueShare(String what, double want, double got) {
        asked++;
        if (Double.compare(want, got) != 0) {
            fault(what + " answered " + got + ", due is " + want);
        }
    }

    static void noLadder(LadderClimb x, String what, Call call) {
        refuses(x, what, IndexOutOfBoundsException.class, call);
    }

    static void badArgument(LadderClimb x, String what, Call call) {
        refuses(x, what, IllegalArgumentException.class, call);
    }

    static void badState(LadderClimb x, String what, Call call) {
        refuses(x, what, IllegalStateException.class, call);
    }

    /** The call must throw just this exception, and change nothing that digest tells. */
    static void refuses(LadderClimb x, String what, Class<?> exception, Call call) {
        long before = x.digest();
        asked++;
        try {
            fault(what + " answered " + call.answer() + ", due is " + exception.getSimpleName());
        } catch (RuntimeException e) {
            if (e.getClass() != exception) {
                fault(what + " threw " + e + ", due is " + exception.getSimpleName());
            }
        }
        due(what + ": digest behind it", before, x.digest());
    }

    static void type(LadderClimb x, String text) {
        for (int i = 0; i < text.length(); i++) {
            x.append(text.charAt(i));
        }
    }

    static void fault(String text) {
        wrong++;
        if (wrong <= 40) {
            System.out.println(text);
        }
    }

    static void end() {
        System.out.println(asked + " answers looked at, " + wrong + " wrong");
        if (wrong != 0) {
            System.exit(1);
        }
    }
}
