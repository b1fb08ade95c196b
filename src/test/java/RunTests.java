/** Promises 12, 13 and 30 to 35: runs and records. */
final class RunTests {
    private RunTests() {
    }

    static void all() {
        run();
        runRefuses();
        stepRefuses();
        oneRunAtATime();
        twoHundredSteps();
        record();
        winsWithTheLastStep();
        withdrawnWhileItGoesOn();
        runsThatAreOverStay();
        worksKeepTheirGrids();
        withoutARun();
    }

    private static void run() {
        Check.begin("promise 12, run");
        LedgeLevels x = new LedgeLevels();
        x.begin(0);
        x.setStart(0, 74);
        x.set(0, 76, 5);
        x.prove(0);
        x.offer(0);
        x.setStart(0, 76);
        x.prove(0);
        x.offer(0);
        Check.due("the cell of the body", 74, x.run(3, 0));
        Check.due("it goes on", 1, x.runState(3));
        Check.due("another person has none", 0, x.runState(2));
        Check.due("won at once", -2, x.run(2, 1));
        Check.due("has won", 2, x.runState(2));
        Check.due("without steps", 0, x.stepsOf(2));
        Check.due("the body", 76, x.body(2));
        Check.due("the record", 0, x.record(1));
        Check.due("the other work's record", -1, x.record(0));
        Check.badState(x, "a step of a run that has won at once", () -> x.step(2, 1));
        Check.due("also by its author", 74, x.run(0, 0));
    }

    private static void runRefuses() {
        Check.begin("promise 12, what run refuses");
        LedgeLevels x = new LedgeLevels();
        Check.outOfBounds(x, "a work of none", () -> x.run(0, 0));
        int work = Draw.work(x, 0, Draw.TOWER);
        x.run(1, work);
        x.step(1, 2);
        Check.outOfBounds(x, "person 6", () -> x.run(6, 0));
        Check.outOfBounds(x, "person -1", () -> x.run(-1, 0));
        Check.outOfBounds(x, "work 1", () -> x.run(0, 1));
        Check.outOfBounds(x, "work -1", () -> x.run(0, -1));
        Check.outOfBounds(x, "work 20", () -> x.run(0, 20));
        x.setSpring(1, 1);
        Check.badState(x, "a withdrawn work", () -> x.run(0, 0));
        Check.badState(x, "a withdrawn work, by who has a run", () -> x.run(1, 0));
        Check.outOfBounds(x, "person 6, a withdrawn work", () -> x.run(6, 0));
        x.setSpring(1, 4);
        Check.due("it came back", 48, x.run(0, 0));
    }

    private static void stepRefuses() {
        Check.begin("promise 13, what step refuses");
        LedgeLevels x = new LedgeLevels();
        x.begin(0);
        x.set(0, 74, 5);
        x.set(0, 83, 4);
        x.prove(0);
        x.offer(0);
        Check.badState(x, "no run", () -> x.step(0, 1));
        Check.badArgument(x, "no run, input 6", () -> x.step(0, 6));
        x.run(0, 0);
        Check.outOfBounds(x, "person 6", () -> x.step(6, 1));
        Check.outOfBounds(x, "person -1", () -> x.step(-1, 1));
        Check.outOfBounds(x, "person 6, input 6", () -> x.step(6, 6));
        Check.badArgument(x, "input 6", () -> x.step(0, 6));
        Check.badArgument(x, "input -1", () -> x.step(0, -1));
        Check.badState(x, "another person's run", () -> x.step(1, 1));
        Walk.times(x, 0, Walk.RIGHT, 2);
        Check.badState(x, "a run that has won", () -> x.step(0, 1));
        Check.badArgument(x, "a run that has won, input 6", () -> x.step(0, 6));
    }

    private static void oneRunAtATime() {
        Check.begin("promise 12, one run at a time");
        LedgeLevels x = new LedgeLevels();
        x.begin(0);
        x.set(0, 73, 2);
        x.set(0, 80, 5);
        x.prove(0);
        x.offer(0);
        x.run(0, 0);
        x.run(1, 0);
        Walk.times(x, 0, Walk.RIGHT, 3);
        Walk.times(x, 1, Walk.RIGHT, 1);
        Check.due("the one's body", 75, x.body(0));
        Check.due("the other's body", 73, x.body(1));
        Check.due("the one's steps", 3, x.stepsOf(0));
        Check.due("the other's steps", 1, x.stepsOf(1));
        Check.due("begun anew", 72, x.run(0, 0));
        Check.due("no steps", 0, x.stepsOf(0));
        Check.due("no keys", 0, x.keys(0));
        Check.due("no speed", 0, x.speed(0));
        Check.due("the other's goes on", 73, x.body(1));
        Walk.times(x, 0, Walk.RIGHT, 8);
        Check.due("won", 2, x.runState(0));
        Check.due("the steps of the new run", 8, x.record(0));
        x.run(0, 0);
        Check.due("goes on", 1, x.runState(0));
    }

    private static void twoHundredSteps() {
        Check.begin("promise 13, at most 200 steps");
        LedgeLevels x = new LedgeLevels();
        int work = Draw.work(x, 0, Draw.TOWER);
        x.run(0, work);
        for (int step = 1; step <= 200; step++) {
            x.step(0, 1);
            Check.due("steps", step, x.stepsOf(0));
        }
        Check.badState(x, "one step more", () -> x.step(0, 1));
        Check.badArgument(x, "one step more, input 6", () -> x.step(0, 6));
        Check.due("it is not over for good", 1, x.runState(0));
        Check.due("its body stays", 48, x.body(0));
        x.setSpring(1, 1);
        Check.due("so its work is withdrawn while it goes on", 4, x.runState(0));
        x.setSpring(1, 3);
        x.run(0, work);
        Check.due("another run has none", 0, x.stepsOf(0));
    }

    private static void record() {
        Check.begin("promise 30, record");
        LedgeLevels x = new LedgeLevels();
        x.begin(0);
        x.set(0, 75, 5);
        x.prove(0);
        x.offer(0);
        x.offer(0);
        Check.due("no run", -1, x.record(0));
        x.run(0, 0);
        x.step(0, 0);
        Check.due("no run that won", -1, x.record(0));
        Walk.times(x, 0, Walk.RIGHT, 3);
        Check.due("the first run that won", 4, x.record(0));
        x.run(1, 0);
        x.step(1, 0);
        x.step(1, 0);
        Walk.times(x, 1, Walk.RIGHT, 3);
        Check.due("more steps change nothing", 4, x.record(0));
        x.run(0, 0);
        Walk.times(x, 0, Walk.RIGHT, 3);
        Check.due("fewer steps", 3, x.record(0));
        Check.due("another work", -1, x.record(1));
        Check.outOfBounds(x, "work 2", () -> x.record(2));
        Check.outOfBounds(x, "work -1", () -> x.record(-1));
        LedgeLevels y = new LedgeLevels();
        int work = Draw.work(y, 0,
            "S^.........G",
            "############");
        y.run(0, work);
        y.step(0, 2);
        Check.due("a lost run is none", -1, y.record(work));
    }

    private static void winsWithTheLastStep() {
        Check.begin("promise 13, the 200th step wins");
        LedgeLevels x = new LedgeLevels();
        x.begin(0);
        x.set(0, 73, 5);
        x.prove(0);
        x.offer(0);
        x.run(0, 0);
        for (int step = 1; step < 200; step++) {
            x.step(0, 0);
        }
        Check.due("won", -2, x.step(0, 2));
        Check.due("the record", 200, x.record(0));
        Check.due("the state", 2, x.runState(0));
    }

    private static void withdrawnWhileItGoesOn() {
        Check.begin("promise 31, runs of a withdrawn work");
        LedgeLevels x = new LedgeLevels();
        int work = Draw.work(x, 0, Draw.TOWER);
        x.begin(1);
        x.set(1, 75, 5);
        x.prove(1);
        x.offer(1);
        x.run(0, work);
        x.step(0, 2);
        x.step(0, 1);
        x.run(1, 1);
        x.run(2, work);
        x.setSpring(1, 4);
        Check.due("it can be won still", 1, x.runState(0));
        x.setSpring(1, 1);
        Check.due("withdrawn", 4, x.runState(0));
        Check.due("another's too", 4, x.runState(2));
        Check.due("a run of another work goes on", 1, x.runState(1));
        Check.due("the body stays", 61, x.body(0));
        Check.due("the speed stays", 2, x.speed(0));
        Check.due("the steps stay", 2, x.stepsOf(0));
        Check.badState(x, "a step of it", () -> x.step(0, 1));
        x.setSpring(1, 3);
        Check.due("it is over for good", 4, x.runState(0));
        Check.badState(x, "a step of it, the work being back", () -> x.step(0, 1));
        Check.due("another run", 48, x.run(0, work));
        Check.due("goes on", 1, x.runState(0));
    }

    private static void runsThatAreOverStay() {
        Check.begin("promise 31, runs that are over");
        LedgeLevels x = new LedgeLevels();
        int work = Draw.work(x, 0,
            "............",
            "....#.......",
            "....#.......",
            "....#.......",
            "S...#.......",
            "#...#.......",
            "#..^#......G",
            "#1##########");
        x.run(0, work);
        for (int step = 0; step < 6 && x.runState(0) == 1; step++) {
            x.step(0, step < 3 ? 2 : 1);
        }
        Check.due("lost", 3, x.runState(0));
        x.run(1, work);
        int[] inputs = {2, 1, 1, 2, 2, 2, 2, 2, 2, 2, 2, 2, 2, 2};
        for (int input : inputs) {
            x.step(1, input);
        }
        Check.due("won", 2, x.runState(1));
        Check.due("with the best number of steps", x.best(work), x.record(work));
        x.setSpring(1, 1);
        Check.due("withdrawn", -1, x.best(work));
        Check.due("lost it stays", 3, x.runState(0));
        Check.due("won it stays", 2, x.runState(1));
        Check.due("the record stays", 14, x.record(work));
        Check.due("the lost body", 75, x.body(0));
        Check.due("the body that won", 83, x.body(1));
    }

    private static void worksKeepTheirGrids() {
        Check.begin("promises 9 and 12, a work keeps its grid and start");
        LedgeLevels x = new LedgeLevels();
        x.begin(0);
        x.set(0, 74, 5);
        x.prove(0);
        x.offer(0);
        x.set(0, 73, 1);
        x.set(0, 74, 0);
        x.setStart(0, 3);
        Check.due("the start", 72, x.run(0, 0));
        Check.due("no wall", 73, x.step(0, 2));
        Check.due("the goal", -2, x.step(0, 2));
        Check.due("best", 2, x.best(0));
    }

    private static void withoutARun() {
        Check.begin("promises 31 to 35, without a run and out of bounds");
        LedgeLevels x = new LedgeLevels();
        for (int person = 0; person < 6; person++) {
            Check.due("runState", 0, x.runState(person));
            Check.due("body", -1, x.body(person));
            Check.due("speed", 0, x.speed(person));
            Check.due("keys", 0, x.keys(person));
            Check.due("stepsOf", 0, x.stepsOf(person));
        }
        int[] wrong = {-1, 6, Integer.MAX_VALUE, Integer.MIN_VALUE};
        for (int person : wrong) {
            Check.outOfBounds(x, "runState", () -> x.runState(person));
            Check.outOfBounds(x, "body", () -> x.body(person));
            Check.outOfBounds(x, "speed", () -> x.speed(person));
            Check.outOfBounds(x, "keys", () -> x.keys(person));
            Check.outOfBounds(x, "stepsOf", () -> x.stepsOf(person));
        }
    }
}
