/** The edges in the section "Terms": the cells that a body comes to, and when it is lost or has won. */
final class TermsOfEnds {
    private static final int LEFT = Walk.LEFT;
    private static final int STAY = Walk.STAY;
    private static final int RIGHT = Walk.RIGHT;
    private static final int UP = Walk.UP;
    private static final int RIGHT_UP = Walk.RIGHT_UP;

    private TermsOfEnds() {
    }

    static void all() {
        keysOnTheWay();
        keyIsTakenOnce();
        keyOpensInTheSameStep();
        endsComeOneBehindTheOther();
        startIsLookedAt();
        lostOnSpikes();
        lostBelow();
        wonOnTheGoal();
        stepIsOver();
        speedStays();
        noMoreSteps();
    }

    private static void keysOnTheWay() {
        Edge.terms("Each cell that it comes to by that");
        LedgeLevels x = Walk.on(
            "k...........",
            "k...........",
            "Sk.........G",
            "############");
        x.step(0, UP);
        Check.due("the cell it passes, and the one it comes to", 2, x.keys(0));
        x.run(0, 0);
        x.step(0, RIGHT_UP);
        Check.due("the cell aside", 1, x.keys(0));
        LedgeLevels y = Walk.on(
            "S...........",
            "............",
            "............",
            "............",
            "k...........",
            "k...........",
            "k..........G",
            "############");
        Walk.times(y, 0, STAY, 3);
        Check.due("none yet", 0, y.keys(0));
        y.step(0, STAY);
        Check.due("three by one step down", 3, y.keys(0));
    }

    private static void keyIsTakenOnce() {
        Edge.terms("a key there is taken");
        LedgeLevels x = Walk.on(
            "Sk.k.......G",
            "############");
        int[] inputs = {STAY, RIGHT, STAY, LEFT, RIGHT, RIGHT, LEFT, RIGHT, RIGHT, STAY, LEFT, LEFT, LEFT};
        int[] keys = {0, 1, 1, 1, 1, 1, 1, 1, 2, 2, 2, 2, 2};
        for (int step = 0; step < inputs.length; step++) {
            x.step(0, inputs[step]);
            Check.due("keys behind the step " + step, keys[step], x.keys(0));
        }
        x.run(1, 0);
        Check.due("another body has none", 0, x.keys(1));
        x.step(1, RIGHT);
        Check.due("and takes its own", 1, x.keys(1));
        Check.due("in the level all stay", 2, x.at(0, 73));
    }

    private static void keyOpensInTheSameStep() {
        Edge.terms("one behind the other");
        LedgeLevels aside = Walk.on(
            ".D..........",
            "Sk.........G",
            "############");
        Walk.steps(aside, new int[][] {{RIGHT_UP, 49, -1}});
        LedgeLevels down = Walk.on(
            "S...........",
            "............",
            "............",
            "............",
            "k...........",
            "D...........",
            "...........G",
            "############");
        Walk.steps(down, new int[][] {{STAY, 0, 1}, {STAY, 12, 2}, {STAY, 36, 3}, {STAY, 72, 3}});
        LedgeLevels up = Walk.on(
            "D...........",
            "k...........",
            "S..........G",
            "############");
        Walk.steps(up, new int[][] {{UP, 48, -1}});
        LedgeLevels tooLate = Walk.on(
            "D#..........",
            "k...........",
            "D...........",
            "S..........G",
            "############");
        Walk.steps(tooLate, new int[][] {{UP, 72, 0}});
    }

    private static void endsComeOneBehindTheOther() {
        Edge.terms("one behind the other, and the start");
        LedgeLevels x = Walk.on(
            "S...........",
            "............",
            "............",
            "............",
            "^...........",
            "G...........",
            "...........G",
            "############");
        Walk.times(x, 0, STAY, 3);
        Walk.ends(x, STAY, -1, 48, 3);
        LedgeLevels y = Walk.on(
            "S...........",
            "............",
            "............",
            "............",
            "G...........",
            "^...........",
            "............",
            "############");
        Walk.times(y, 0, STAY, 3);
        Walk.ends(y, STAY, -2, 48, 3);
        LedgeLevels aside = Walk.on(
            ".^..........",
            "SG..........",
            "############");
        Walk.ends(aside, RIGHT_UP, -2, 73, -2);
        LedgeLevels lost = Walk.on(
            ".G..........",
            "S^..........",
            "############");
        Walk.ends(lost, RIGHT_UP, -1, 73, -2);
    }

    private static void startIsLookedAt() {
        Edge.terms("and the start, is looked at");
        LedgeLevels x = new LedgeLevels();
        x.begin(0);
        x.set(0, 72, 5);
        Check.due("a goal", 0, x.prove(0));
        Check.due("won at once", -2, x.run(1, x.offer(0)));
        x.set(0, 72, 4);
        x.set(0, 73, 5);
        Check.due("spikes", -1, x.prove(0));
        Check.due("lost, so it is nowhere", 0, x.reach(0));
        x.set(0, 72, 2);
        x.set(0, 73, 3);
        x.set(0, 74, 5);
        Check.due("a key, which opens the door", 2, x.prove(0));
        x.run(1, x.offer(0));
        Check.due("the key is taken", 1, x.keys(1));
        Walk.times(x, 1, RIGHT, 1);
        Check.due("the door is no hindrance", 73, x.body(1));
    }

    private static void lostOnSpikes() {
        Edge.terms("on spikes, and below the row 7, it is lost");
        String[] picture = {
            "S...........",
            "............",
            "............",
            "............",
            "............",
            "............",
            "...........G",
            "############",
        };
        int[] rows = {1, 2, 3, 4, 5, 6};
        int[] steps = {2, 3, 3, 4, 4, 4};
        for (int place = 0; place < rows.length; place++) {
            String[] with = picture.clone();
            with[rows[place]] = "^" + picture[rows[place]].substring(1);
            LedgeLevels x = Walk.on(with);
            Walk.times(x, 0, STAY, steps[place] - 1);
            Check.due("not lost yet", 1, x.runState(0));
            Walk.ends(x, STAY, -1, 12 * rows[place], steps[place] - 1);
        }
    }

    private static void lostBelow() {
        Edge.terms("and below the row 7, it is lost");
        LedgeLevels x = Walk.on(
            "............",
            "............",
            "............",
            "............",
            "............",
            "............",
            "SG..........",
            ".###########");
        Walk.steps(x, new int[][] {{UP, 72, 1}, {UP, 84, 2}});
        Walk.ends(x, UP, -1, 84, 2);
        Check.due("as is the body", 84, x.body(0));
        LedgeLevels y = Walk.on(
            "............",
            "............",
            "............",
            "S...........",
            "............",
            "............",
            "...........G",
            ".###########");
        Walk.steps(y, new int[][] {{STAY, 36, 1}, {STAY, 48, 2}, {STAY, 72, 3}});
        Walk.ends(y, STAY, -1, 84, 3);
    }

    private static void wonOnTheGoal() {
        Edge.terms("on the goal it has won");
        int[] inputs = {LEFT, RIGHT, UP, UP};
        int[] goals = {75, 77, 64, 52};
        int[] speeds = {0, 0, -2, -2};
        for (int place = 0; place < goals.length; place++) {
            LedgeLevels x = new LedgeLevels();
            x.begin(0);
            x.setStart(0, 76);
            x.set(0, goals[place], 5);
            Check.due("one step", 1, x.prove(0));
            x.run(0, x.offer(0));
            Walk.ends(x, inputs[place], -2, goals[place], speeds[place]);
            Check.due("the record", 1, x.record(0));
        }
    }

    private static void stepIsOver() {
        Edge.terms("the step is over with that");
        LedgeLevels x = Walk.on(
            "k...........",
            "G...........",
            "S...........",
            "############");
        Walk.ends(x, UP, -2, 60, -2);
        Check.due("no key behind the goal", 0, x.keys(0));
        LedgeLevels y = Walk.on(
            ".k..........",
            ".k..........",
            "S^.........G",
            "############");
        Walk.ends(y, RIGHT_UP, -1, 73, -2);
        Check.due("no key behind spikes", 0, y.keys(0));
        LedgeLevels z = Walk.on(
            ".k..........",
            ".^..........",
            "Sk.........G",
            "############");
        Walk.ends(z, RIGHT_UP, -1, 61, -2);
        Check.due("the key ahead of spikes", 1, z.keys(0));
    }

    private static void speedStays() {
        Edge.terms("its speed stays as it was then");
        for (int strength = 1; strength <= 4; strength++) {
            LedgeLevels x = new LedgeLevels();
            x.begin(0);
            x.setStart(0, 48);
            x.set(0, 84, 8);
            x.set(0, 73, 5);
            x.set(0, 61, 4);
            x.setSpring(2, strength);
            x.prove(0);
            x.run(0, x.offer(0));
            Walk.steps(x, new int[][] {{STAY, 48, 1}, {STAY, 60, 2}, {STAY, 72, -strength}});
            Walk.ends(x, RIGHT, -2, 73, -strength);
            x.run(0, 0);
            Walk.steps(x, new int[][] {{STAY, 48, 1}, {STAY, 60, 2}});
            Walk.ends(x, RIGHT, -1, 61, 2);
        }
    }

    private static void noMoreSteps() {
        Edge.terms("A body that is lost, or has won, makes no more steps.");
        LedgeLevels x = Walk.on(
            "^S.G........",
            "############");
        int[] ways = {LEFT, RIGHT};
        for (int way : ways) {
            x.run(0, 0);
            while (x.runState(0) == 1) {
                x.step(0, way);
            }
            int steps = x.stepsOf(0);
            int cell = x.body(0);
            for (int input = 0; input < 6; input++) {
                int made = input;
                Check.badState(x, "input " + input, () -> x.step(0, made));
            }
            Check.due("steps", steps, x.stepsOf(0));
            Check.due("cell", cell, x.body(0));
        }
    }
}
