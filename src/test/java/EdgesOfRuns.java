/** The edges in the promises 12, 13 and 30 to 35. */
final class EdgesOfRuns {
    private EdgesOfRuns() {
    }

    static void all() {
        run();
        wonAtOnce();
        runOfWithdrawn();
        step();
        lostOrWon();
        noRunThatGoesOn();
        twoHundredSteps();
        record();
        recordOfNone();
        runState();
        body();
        bodyThatIsLost();
        speed();
        keys();
        stepsOf();
        withoutARun();
    }

    private static LedgeLevels withWork(int goal) {
        LedgeLevels x = new LedgeLevels();
        x.begin(0);
        x.set(0, goal, 5);
        x.prove(0);
        x.offer(0);
        return x;
    }

    private static LedgeLevels withTower() {
        LedgeLevels x = new LedgeLevels();
        Draw.work(x, 0, Draw.TOWER);
        return x;
    }

    private static void run() {
        Edge.promise(12, "A person begins a run.");
        LedgeLevels x = withWork(74);
        x.run(5, 0);
        Check.due("the last person", 1, x.runState(5));
        Check.due("nobody else", 0, x.runState(0));
        Check.due("also the author", 72, x.run(0, 0));
        Edge.promise(12, "Returns the cell of the body");
        x.setStart(0, 95);
        x.set(0, 94, 5);
        x.prove(0);
        x.offer(0);
        Check.due("the last cell", 95, x.run(0, 1));
        x.setStart(0, 0);
        x.set(0, 1, 5);
        x.prove(0);
        x.offer(0);
        Check.due("the first cell", 0, x.run(0, 2));
    }

    private static void wonAtOnce() {
        Edge.promise(12, "-2 if it has won at once.");
        LedgeLevels x = withWork(72);
        Check.due("won", -2, x.run(1, 0));
        Check.due("the state", 2, x.runState(1));
        Check.due("the body", 72, x.body(1));
        Check.due("the speed", 0, x.speed(1));
        Check.due("the steps", 0, x.stepsOf(1));
        Check.due("the record", 0, x.record(0));
        Check.due("once more", -2, x.run(1, 0));
        Edge.promise(12, "-1 if it is lost");
        x.set(0, 72, 4);
        x.set(0, 73, 5);
        x.prove(0);
        Check.badState(x, "a body that would be lost has no work to run", () -> x.offer(0));
    }

    private static void runOfWithdrawn() {
        Edge.promise(12, "if the work is withdrawn");
        LedgeLevels x = withTower();
        x.set(0, 47, 5);
        x.setStart(0, 46);
        x.prove(0);
        x.offer(0);
        x.run(0, 1);
        x.setSpring(1, 2);
        Check.badState(x, "withdrawn", () -> x.run(0, 0));
        Check.badState(x, "withdrawn, by another", () -> x.run(5, 0));
        Check.outOfBounds(x, "withdrawn, by nobody", () -> x.run(6, 0));
        Check.due("the run of another work goes on", -2, x.step(0, Walk.RIGHT));
        x.setSpring(1, 3);
        Check.due("back", 48, x.run(0, 0));
    }

    private static void step() {
        Edge.promise(13, "A person makes a step of the run.");
        LedgeLevels x = withWork(83);
        x.run(0, 0);
        x.run(5, 0);
        x.step(5, Walk.RIGHT);
        Check.due("this one", 73, x.body(5));
        Check.due("nobody else", 72, x.body(0));
        Edge.promise(13, "input: 0 to 5");
        Check.due("the first input", 72, x.step(5, 0));
        Check.due("the last input", 49, x.step(5, 5));
        Check.badArgument(x, "-1", () -> x.step(5, -1));
        Check.badArgument(x, "6", () -> x.step(5, 6));
        Edge.promise(13, "Returns the cell of the body then");
        Check.due("the cell", 38, x.step(5, Walk.RIGHT));
        Check.due("as body tells", 38, x.body(5));
    }

    private static void lostOrWon() {
        Edge.promise(13, "-1 if it is lost, -2 if it has won.");
        LedgeLevels x = new LedgeLevels();
        x.begin(0);
        x.setStart(0, 73);
        x.set(0, 72, 4);
        x.set(0, 74, 5);
        x.prove(0);
        x.offer(0);
        x.run(0, 0);
        Check.due("lost", -1, x.step(0, Walk.LEFT));
        x.run(0, 0);
        Check.due("won", -2, x.step(0, Walk.RIGHT));
        x.run(0, 0);
        Check.due("neither", 73, x.step(0, Walk.STAY));
        Check.due("lost by a jump aside", -1, x.step(0, Walk.LEFT_UP));
    }

    private static void noRunThatGoesOn() {
        Edge.promise(13, "if the person has no run that goes on");
        LedgeLevels x = withTower();
        x.setStart(0, 82);
        x.set(0, 81, 4);
        x.prove(0);
        x.offer(0);
        Check.badState(x, "none was begun", () -> x.step(0, 0));
        x.run(1, 1);
        x.step(1, Walk.RIGHT);
        Check.badState(x, "it has won", () -> x.step(1, 0));
        x.run(2, 1);
        x.step(2, Walk.LEFT);
        Check.badState(x, "the body is lost", () -> x.step(2, 0));
        x.run(3, 0);
        x.setSpring(1, 1);
        Check.badState(x, "its work was withdrawn", () -> x.step(3, 0));
        Check.badArgument(x, "input 6, without a run", () -> x.step(0, 6));
        Check.outOfBounds(x, "nobody", () -> x.step(6, 6));
    }

    private static void twoHundredSteps() {
        Edge.promise(13, "or it has 200 steps");
        LedgeLevels x = withWork(74);
        x.run(0, 0);
        Walk.times(x, 0, Walk.LEFT, 199);
        Check.due("the step 200", 72, x.step(0, Walk.LEFT));
        Check.badState(x, "the step 201", () -> x.step(0, Walk.LEFT));
        Check.badArgument(x, "the step 201, input -1", () -> x.step(0, -1));
        Check.due("goes on", 1, x.runState(0));
        Check.due("the body", 72, x.body(0));
        x.run(0, 0);
        Check.due("another run", 72, x.step(0, Walk.LEFT));
    }

    private static void record() {
        Edge.promise(30, "Returns the record of a work.");
        LedgeLevels x = withWork(74);
        x.offer(0);
        x.run(0, 1);
        Walk.times(x, 0, Walk.LEFT, 3);
        Walk.times(x, 0, Walk.RIGHT, 2);
        Check.due("this one", 5, x.record(1));
        Check.due("no other", -1, x.record(0));
        Edge.promise(30, "Returns the fewest steps;");
        int[] waits = {3, 2, 4, 0, 1};
        int[] due = {5, 4, 4, 2, 2};
        for (int place = 0; place < waits.length; place++) {
            x.run(place, 1);
            Walk.times(x, place, Walk.LEFT, waits[place]);
            Walk.times(x, place, Walk.RIGHT, 2);
            Check.due("behind the run " + place, due[place], x.record(1));
        }
    }

    private static void recordOfNone() {
        Edge.promise(30, "-1 if no run has won it.");
        LedgeLevels x = withTower();
        Check.due("no run", -1, x.record(0));
        x.run(0, 0);
        Check.due("one that goes on", -1, x.record(0));
        x.setSpring(1, 1);
        Check.due("one that was withdrawn", -1, x.record(0));
        x.setSpring(1, 4);
        x.run(0, 0);
        Walk.times(x, 0, Walk.LEFT, 200);
        Check.due("one with all its steps", -1, x.record(0));
        LedgeLevels y = new LedgeLevels();
        y.begin(0);
        y.set(0, 73, 4);
        y.set(0, 48, 5);
        y.prove(0);
        y.offer(0);
        y.run(0, 0);
        y.step(0, Walk.RIGHT);
        Check.due("one that is lost", -1, y.record(0));
    }

    private static void runState() {
        Edge.promise(31, "0 none was begun, 1 it goes on, 2 it has won, 3 the body is lost");
        LedgeLevels x = withWork(74);
        x.set(0, 73, 4);
        x.set(0, 48, 5);
        x.prove(0);
        x.offer(0);
        Check.due("none", 0, x.runState(0));
        x.run(0, 0);
        Check.due("goes on", 1, x.runState(0));
        x.step(0, Walk.RIGHT);
        Check.due("goes on", 1, x.runState(0));
        x.step(0, Walk.RIGHT);
        Check.due("won", 2, x.runState(0));
        x.run(0, 1);
        Check.due("another goes on", 1, x.runState(0));
        x.step(0, Walk.RIGHT);
        Check.due("lost", 3, x.runState(0));
        Edge.promise(31, "Returns the run of a person.");
        Check.due("the last person's", 0, x.runState(5));
        Edge.promise(31, "4 its work was withdrawn while it went on.");
        LedgeLevels y = withTower();
        y.run(0, 0);
        y.setSpring(1, 4);
        Check.due("not withdrawn", 1, y.runState(0));
        y.setSpring(1, 2);
        Check.due("withdrawn", 4, y.runState(0));
        y.setSpring(1, 3);
        Check.due("for good", 4, y.runState(0));
    }

    private static void body() {
        Edge.promise(32, "Returns the cell of the body of a person's run.");
        LedgeLevels x = withTower();
        x.run(0, 0);
        Check.due("the start", 48, x.body(0));
        x.step(0, Walk.RIGHT);
        Check.due("then", 49, x.body(0));
        x.setSpring(1, 1);
        Check.due("where it was as its work was withdrawn", 49, x.body(0));
        LedgeLevels y = withWork(73);
        y.run(0, 0);
        y.step(0, Walk.RIGHT);
        Check.due("the goal", 73, y.body(0));
    }

    private static void bodyThatIsLost() {
        Edge.promise(32, "the last one for a body that is lost below the row 7");
        for (int cell = 84; cell < 96; cell++) {
            LedgeLevels x = new LedgeLevels();
            x.begin(0);
            x.setStart(0, cell - 12);
            x.set(0, cell, 0);
            x.set(0, cell == 95 ? 82 : cell - 11, 5);
            x.prove(0);
            x.offer(0);
            x.run(0, 0);
            Walk.steps(x, new int[][] {{Walk.STAY, cell - 12, 1}, {Walk.STAY, cell, 2}});
            Walk.ends(x, Walk.STAY, -1, cell, 2);
        }
        LedgeLevels y = withWork(74);
        y.set(0, 73, 4);
        y.set(0, 48, 5);
        y.prove(0);
        y.offer(0);
        y.run(0, 1);
        Walk.ends(y, Walk.RIGHT_UP, -1, 73, -2);
        Edge.promise(32, "Returns the cell, the last one");
        Check.due("the spikes", 73, y.body(0));
    }

    private static void speed() {
        Edge.promise(33, "Returns the speed of the body of a person's run");
        LedgeLevels x = withTower();
        x.run(0, 0);
        int[][] due = {{2, 1}, {1, 2}, {1, -3}, {1, -2}, {1, -1}, {1, 0}, {1, 1}, {1, 2}, {1, 3}};
        for (int[] row : due) {
            x.step(0, row[0]);
            Check.due("the speed", row[1], x.speed(0));
        }
        x.setSpring(1, 1);
        Check.due("as its work was withdrawn", 3, x.speed(0));
        x.setSpring(1, 3);
        x.run(0, 0);
        Check.due("of a new run", 0, x.speed(0));
    }

    private static void keys() {
        Edge.promise(34, "Returns how many keys the body of a person's run has taken");
        LedgeLevels x = Walk.on(
            "kkS........G",
            "k##........#",
            "############");
        int[] due = {1, 2, 3, 3};
        for (int taken : due) {
            x.step(0, Walk.LEFT);
            Check.due("keys", taken, x.keys(0));
        }
        Check.due("another person's", 0, x.keys(1));
        x.run(0, 0);
        Check.due("of a new run", 0, x.keys(0));
        LedgeLevels y = withWork(72);
        y.begin(0);
        y.set(1, 72, 2);
        y.set(1, 73, 2);
        y.set(1, 74, 5);
        y.prove(1);
        y.offer(1);
        y.run(0, 1);
        Check.due("one at the start", 1, y.keys(0));
        y.step(0, Walk.RIGHT);
        y.step(0, Walk.RIGHT);
        Check.due("of a run that has won", 2, y.keys(0));
    }

    private static void stepsOf() {
        Edge.promise(35, "Returns how many steps a person's run has");
        LedgeLevels x = withWork(74);
        x.run(5, 0);
        for (int step = 0; step < 200; step++) {
            Check.due("so many", step, x.stepsOf(5));
            x.step(5, Walk.LEFT);
        }
        Check.badState(x, "one more", () -> x.step(5, Walk.LEFT));
        Check.badArgument(x, "a refused input", () -> x.step(5, 6));
        Check.due("two hundred", 200, x.stepsOf(5));
        x.run(5, 0);
        Walk.times(x, 5, Walk.RIGHT, 2);
        Check.due("of a run that has won", 2, x.stepsOf(5));
    }

    private static void withoutARun() {
        LedgeLevels x = withWork(74);
        Check.outOfBounds(x, "a run of no work", () -> x.run(0, 1));
        x.run(1, 0);
        int[] persons = {0, 5};
        for (int person : persons) {
            Edge.promise(32, "-1 if there is no run.");
            Check.due("body", -1, x.body(person));
            Edge.promise(33, "0 without a run.");
            Check.due("speed", 0, x.speed(person));
            Edge.promise(34, "0 without a run.");
            Check.due("keys", 0, x.keys(person));
            Edge.promise(35, "0 without a run.");
            Check.due("stepsOf", 0, x.stepsOf(person));
        }
    }
}
