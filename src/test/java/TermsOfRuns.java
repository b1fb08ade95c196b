/** The edges in the section "Terms": runs and records, calls that throw, and calls that only ask. */
final class TermsOfRuns {
    private TermsOfRuns() {
    }

    static void all() {
        bodyOfTheWork();
        stepsByTheSprings();
        twoHundredSteps();
        lastStepEndsARun();
        stepsOfEachRun();
        oneRunAtATime();
        anotherRunEndsIt();
        overWhenWon();
        overWhenLost();
        overWhenWithdrawn();
        overBeforeWithdrawn();
        fewestSteps();
        recordsOfOtherRuns();
        refusedByState();
        refusedByFullWorkshops();
        askingChangesNothing();
    }

    private static LedgeLevels withWork(int goal) {
        LedgeLevels x = new LedgeLevels();
        x.begin(0);
        x.set(0, goal, 5);
        x.prove(0);
        x.offer(0);
        return x;
    }

    private static void bodyOfTheWork() {
        Edge.terms("A person begins a run of a work: a body of the work");
        LedgeLevels x = withWork(74);
        x.set(0, 73, 4);
        x.setStart(0, 5);
        for (int person = 0; person < 6; person++) {
            Check.due("the work's start", 72, x.run(person, 0));
            Check.due("the work's grid", 73, x.step(person, Walk.RIGHT));
            Check.due("the steps", 1, x.stepsOf(person));
        }
    }

    private static void stepsByTheSprings() {
        Edge.terms("steps are made by inputs, by the springs as they are.");
        LedgeLevels x = new LedgeLevels();
        x.begin(0);
        x.setStart(0, 48);
        x.set(0, 84, 6);
        x.set(0, 80, 5);
        x.prove(0);
        x.offer(0);
        for (int strength = 4; strength >= 1; strength--) {
            x.run(1, 0);
            Walk.times(x, 1, Walk.STAY, 2);
            x.setSpring(0, strength);
            x.step(1, Walk.STAY);
            Check.due("the strength as it is then", -strength, x.speed(1));
            x.setSpring(0, strength % 4 + 1);
            Check.due("a speed that is there stays", -strength, x.speed(1));
            Check.due("as does the body", 72, x.body(1));
            Check.due("and goes on with it", 72 - 12 * strength, x.step(1, Walk.STAY));
        }
    }

    private static void twoHundredSteps() {
        Edge.terms("A run has at most 200 steps.");
        LedgeLevels x = withWork(74);
        x.run(3, 0);
        for (int step = 1; step <= 200; step++) {
            Check.due("step " + step, 72, x.step(3, Walk.LEFT));
            Check.due("steps", step, x.stepsOf(3));
            Check.due("goes on", 1, x.runState(3));
        }
        for (int input = 0; input < 6; input++) {
            int made = input;
            Check.badState(x, "the step 201, input " + input, () -> x.step(3, made));
        }
        Check.due("steps", 200, x.stepsOf(3));
        Check.due("no record", -1, x.record(0));
    }

    private static void lastStepEndsARun() {
        Edge.terms("A run has at most 200");
        LedgeLevels x = withWork(74);
        x.set(0, 74, 4);
        x.set(0, 83, 5);
        x.prove(0);
        x.offer(0);
        for (int work = 0; work < 2; work++) {
            x.run(0, work);
            Walk.times(x, 0, Walk.LEFT, 198);
            x.step(0, Walk.RIGHT);
            Check.due("the step 200", work == 0 ? -2 : -1, x.step(0, Walk.RIGHT));
            Check.due("the state", work == 0 ? 2 : 3, x.runState(0));
            Check.due("the steps", 200, x.stepsOf(0));
            Check.due("the record", work == 0 ? 200 : -1, x.record(work));
            x.run(0, work);
            Walk.times(x, 0, Walk.LEFT, 199);
            x.step(0, Walk.RIGHT);
            Check.badState(x, "one step too late", () -> x.step(0, Walk.RIGHT));
            Check.due("the state", 1, x.runState(0));
        }
    }

    private static void stepsOfEachRun() {
        Edge.terms("A run has");
        LedgeLevels x = withWork(74);
        x.run(0, 0);
        x.run(1, 0);
        Walk.times(x, 0, Walk.LEFT, 200);
        Check.badState(x, "one step more", () -> x.step(0, 0));
        Check.due("another person's run has none of these", 72, x.step(1, Walk.LEFT));
        Check.due("begun anew", 72, x.run(0, 0));
        Check.due("no steps", 0, x.stepsOf(0));
        Check.due("a step", 73, x.step(0, Walk.RIGHT));
    }

    private static void oneRunAtATime() {
        Edge.terms("A person has one run at a time");
        LedgeLevels x = withWork(80);
        for (int person = 0; person < 6; person++) {
            x.run(person, 0);
            Walk.times(x, person, Walk.RIGHT, person);
        }
        for (int person = 0; person < 6; person++) {
            Check.due("the body of " + person, 72 + person, x.body(person));
            Check.due("the steps of " + person, person, x.stepsOf(person));
            Check.due("the run of " + person, 1, x.runState(person));
        }
    }

    private static void anotherRunEndsIt() {
        Edge.terms("beginning another one ends it.");
        LedgeLevels x = withWork(80);
        x.set(0, 73, 2);
        x.prove(0);
        x.offer(0);
        x.run(0, 1);
        Walk.times(x, 0, Walk.RIGHT, 3);
        Check.outOfBounds(x, "a run that is refused ends none", () -> x.run(0, 2));
        Check.due("it goes on", 76, x.step(0, Walk.RIGHT));
        Check.due("another one", 72, x.run(0, 0));
        Check.due("its steps", 0, x.stepsOf(0));
        Check.due("its keys", 0, x.keys(0));
        Check.due("its speed", 0, x.speed(0));
        Walk.times(x, 0, Walk.RIGHT, 8);
        Check.due("its work's record", 8, x.record(0));
        Check.due("not the other's", -1, x.record(1));
        x.run(0, 1);
        Check.due("one that is won also makes room", 1, x.runState(0));
    }

    private static void overWhenWon() {
        Edge.terms("A run is over for good when it has won");
        LedgeLevels x = withWork(73);
        x.run(0, 0);
        x.step(0, Walk.RIGHT);
        Check.badState(x, "one more step", () -> x.step(0, Walk.LEFT));
        x.set(0, 73, 0);
        x.undo(0);
        Check.badState(x, "one more, other things having changed", () -> x.step(0, Walk.LEFT));
        Check.due("won", 2, x.runState(0));
    }

    private static void overWhenLost() {
        Edge.terms("or the body is lost");
        LedgeLevels x = new LedgeLevels();
        x.begin(0);
        x.set(0, 73, 4);
        x.set(0, 48, 5);
        x.prove(0);
        x.offer(0);
        x.run(0, 0);
        Check.due("lost", -1, x.step(0, Walk.RIGHT));
        Check.badState(x, "one more step", () -> x.step(0, Walk.LEFT));
        Check.due("lost", 3, x.runState(0));
    }

    private static void overWhenWithdrawn() {
        Edge.terms("or when its work is withdrawn while it goes on.");
        LedgeLevels x = new LedgeLevels();
        Draw.work(x, 0, Draw.TOWER);
        x.run(0, 0);
        x.step(0, Walk.RIGHT);
        x.setSpring(1, 2);
        Check.due("withdrawn", 4, x.runState(0));
        Check.badState(x, "a step", () -> x.step(0, Walk.RIGHT));
        x.setSpring(1, 3);
        Check.due("for good", 4, x.runState(0));
        Check.badState(x, "a step, the work being back", () -> x.step(0, Walk.RIGHT));
        Check.due("the body stays", 49, x.body(0));
        Check.due("the steps stay", 1, x.stepsOf(0));
    }

    private static void overBeforeWithdrawn() {
        Edge.terms("while it goes on");
        LedgeLevels x = new LedgeLevels();
        String[] tower = Draw.TOWER.clone();
        tower[3] = "^...#.......";
        Draw.work(x, 0, tower);
        x.run(0, 0);
        x.step(0, Walk.UP);
        int[] inputs = {2, 1, 1, 2, 2, 2, 2, 2, 2, 2, 2, 2, 2, 2};
        x.run(1, 0);
        for (int input : inputs) {
            x.step(1, input);
        }
        x.run(2, 0);
        x.setSpring(1, 1);
        Check.due("lost before", 3, x.runState(0));
        Check.due("won before", 2, x.runState(1));
        Check.due("went on", 4, x.runState(2));
        Check.due("none was begun", 0, x.runState(3));
        Check.due("the record stays", 14, x.record(0));
    }

    private static void fewestSteps() {
        Edge.terms("The record of a work are the fewest steps of runs that won it.");
        LedgeLevels x = withWork(74);
        int[] waits = {3, 5, 3, 1, 2, 0, 4};
        int[] due = {5, 5, 5, 3, 3, 2, 2};
        for (int place = 0; place < waits.length; place++) {
            int person = place % 6;
            x.run(person, 0);
            Walk.times(x, person, Walk.LEFT, waits[place]);
            Walk.times(x, person, Walk.RIGHT, 1);
            int before = place == 0 ? -1 : due[place - 1];
            Check.due("before it has won", before, x.record(0));
            Walk.times(x, person, Walk.RIGHT, 1);
            Check.due("then", due[place], x.record(0));
        }
        LedgeLevels y = withWork(72);
        Check.due("no run", -1, y.record(0));
        y.run(4, 0);
        Check.due("a run without steps", 0, y.record(0));
    }

    private static void recordsOfOtherRuns() {
        Edge.terms("of runs that won it.");
        LedgeLevels x = withWork(74);
        x.offer(0);
        x.run(0, 0);
        Walk.times(x, 0, Walk.RIGHT, 1);
        x.run(0, 0);
        Check.due("one that was ended", -1, x.record(0));
        Walk.times(x, 0, Walk.RIGHT, 2);
        Check.due("one that won", 2, x.record(0));
        Check.due("the other work of that level", -1, x.record(1));
        x.copy(0, 1);
        x.prove(1);
        Check.due("a work of its copy", -1, x.record(x.offer(1)));
    }

    /** A workshop in which each call that throws by what is there has one reason to, alone. */
    private static LedgeLevels mixedWorkshop() {
        LedgeLevels x = new LedgeLevels();
        Draw.work(x, 4, Draw.TOWER);
        x.begin(1);
        x.set(1, 0, 2);
        x.set(1, 1, 2);
        x.set(1, 2, 2);
        x.set(1, 3, 4);
        x.undo(1);
        x.begin(1);
        x.set(2, 74, 5);
        x.prove(2);
        x.offer(2);
        x.undo(2);
        x.prove(2);
        x.star(0, 0, 3);
        x.star(1, 0, 2);
        x.run(0, 1);
        Walk.times(x, 0, Walk.LEFT, 200);
        x.run(1, 1);
        Walk.times(x, 1, Walk.RIGHT, 2);
        x.run(2, 0);
        x.setSpring(1, 1);
        return x;
    }

    private static void refusedByState() {
        Edge.terms("A call that throws an exception changes nothing");
        LedgeLevels x = mixedWorkshop();
        Check.badState(x, "a fourth key", () -> x.set(1, 50, 2));
        Check.badState(x, "an undoing of nothing", () -> x.undo(2));
        Check.badState(x, "a doing again of nothing", () -> x.redo(0));
        Check.badState(x, "an offer without proof", () -> x.offer(1));
        Check.badState(x, "an offer of what is refuted", () -> x.offer(2));
        Check.badState(x, "a copy of what is withdrawn", () -> x.copy(0, 3));
        Check.badState(x, "stars for what is withdrawn", () -> x.star(0, 0, 1));
        Check.badState(x, "stars by the author", () -> x.star(1, 1, 1));
        Check.badState(x, "a run of what is withdrawn", () -> x.run(0, 0));
        Check.badState(x, "a step of a run with 200 steps", () -> x.step(0, 2));
        Check.badState(x, "a step of a run that has won", () -> x.step(1, 2));
        Check.badState(x, "a step of a run that was withdrawn", () -> x.step(2, 2));
        Check.badState(x, "a step without a run", () -> x.step(3, 2));
        Check.due("the calls behind these", Probe.of(mixedWorkshop()), Probe.of(x));
    }

    private static LedgeLevels twelveAndTwenty() {
        LedgeLevels x = withWork(74);
        for (int level = 1; level < 12; level++) {
            x.copy(0, level % 6);
        }
        x.prove(11);
        for (int work = 1; work < 20; work++) {
            x.offer(11);
        }
        return x;
    }

    private static void refusedByFullWorkshops() {
        Edge.terms("A call that throws");
        LedgeLevels x = twelveAndTwenty();
        Check.badState(x, "a thirteenth level", () -> x.begin(0));
        Check.badState(x, "a thirteenth level by a copy", () -> x.copy(19, 0));
        Check.badState(x, "a twenty-first work", () -> x.offer(0));
        Check.due("the calls behind these", Probe.of(twelveAndTwenty()), Probe.of(x));
    }

    private static void askingChangesNothing() {
        Edge.terms("nothing from here on changes anything.");
        LedgeLevels x = mixedWorkshop();
        String before = Seen.all(x);
        for (Calls.Named named : Calls.ALL) {
            for (int number = -1; number <= 12 && named.promise() >= 14; number++) {
                for (int second = 0; second <= (named.kinds().length() - 1) * 5; second++) {
                    Calls.answer(x, named, number, second);
                }
            }
            Check.due("behind " + named.name(), before, Seen.all(x));
        }
        x.levels();
        x.works();
        Check.due("the calls behind these", Probe.of(mixedWorkshop()), Probe.of(x));
    }
}
