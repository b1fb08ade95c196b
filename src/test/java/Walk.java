/** Steps bodies by hand: the inputs by name, and what is due behind each step. */
final class Walk {
    static final int LEFT = 0;
    static final int STAY = 1;
    static final int RIGHT = 2;
    static final int LEFT_UP = 3;
    static final int UP = 4;
    static final int RIGHT_UP = 5;

    private Walk() {
    }

    /** The person 1 offers the level of the picture, and the person 0 begins a run of it. */
    static LedgeLevels on(String... picture) {
        LedgeLevels x = new LedgeLevels();
        int work = Draw.work(x, 1, picture);
        Check.due("the run begins", x.start(0), x.run(0, work));
        return x;
    }

    /** Makes steps of the person 0; each row is an input, and the cell and the speed of the body then. */
    static void steps(LedgeLevels x, int[][] rows) {
        for (int[] row : rows) {
            int answer = x.step(0, row[0]);
            String what = "step " + x.stepsOf(0) + ", input " + row[0];
            Check.due(what, row[1], answer);
            Check.due("the body behind " + what, row[1], x.body(0));
            Check.due("the speed behind " + what, row[2], x.speed(0));
            Check.due("the state behind " + what, 1, x.runState(0));
        }
    }

    /** Makes the step with which the run of the person 0 is over. */
    static void ends(LedgeLevels x, int input, int answer, int cell, int speed) {
        int steps = x.stepsOf(0);
        Check.due("the last step", answer, x.step(0, input));
        Check.due("the last cell", cell, x.body(0));
        Check.due("the last speed", speed, x.speed(0));
        Check.due("the state", answer == -2 ? 2 : 3, x.runState(0));
        Check.due("the steps", steps + 1, x.stepsOf(0));
        Check.badState(x, "a step behind the end", () -> x.step(0, 1));
    }

    /** Makes the same step of a person many times. */
    static void times(LedgeLevels x, int person, int input, int count) {
        for (int step = 0; step < count; step++) {
            x.step(person, input);
        }
    }
}
