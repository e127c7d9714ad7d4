/** What the tests of edges share: ladders brought into a state without a fall on the way. */
final class Make {

    private Make() {
    }

    /**
     * A new object whose one ladder has this base, height, weight, ground, wall and rope, and
     * people of these weights and steps. They climb where everything holds (steep, on gravel,
     * with a rope of 200), and what it leans on comes behind that.
     */
    static LadderClimb ladder(int ladder, int[] row, int... weightsAndSteps) {
        LadderClimb x = new LadderClimb();
        x.put(ladder, 10, 300, row[2]);
        x.kinds(ladder, 3, row[4]);
        x.rope(ladder, 200);
        for (int i = 0; i < weightsAndSteps.length / 2; i++) {
            x.on(ladder, weightsAndSteps[2 * i]);
            x.climb(ladder, i, weightsAndSteps[2 * i + 1]);
        }
        x.kinds(ladder, row[3], row[4]);
        x.put(ladder, row[0], row[1], row[2]);
        x.rope(ladder, row[5]);
        String what = "made " + java.util.Arrays.toString(row) + java.util.Arrays.toString(weightsAndSteps);
        Check.due(what + ": falls", 0, x.count(2));
        Check.due(what + ": people", weightsAndSteps.length / 2, x.ladder(ladder, 6));
        return x;
    }

    /** What an object tells of its state and of all that undo restores; uses the object up. */
    static String trace(LadderClimb x) {
        StringBuilder text = new StringBuilder("now " + x.digest());
        for (int left = x.count(5); left > 0; left--) {
            text.append(", undo ").append(x.undo()).append(' ').append(x.digest());
        }
        text.append(", buffer ").append(x.clearBuffer());
        try {
            text.append(", undo ").append(x.undo());
        } catch (IllegalStateException e) {
            text.append(", no more");
        }
        return text.toString();
    }
}
