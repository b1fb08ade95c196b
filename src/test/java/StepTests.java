/** The rule of steps, of which the promises 8, 12, 13, 19 to 21 and 31 to 35 tell: bodies stepped by hand. */
final class StepTests {
    private static final int LEFT = 0;
    private static final int STAY = 1;
    private static final int RIGHT = 2;
    private static final int LEFT_UP = 3;
    private static final int UP = 4;
    private static final int RIGHT_UP = 5;

    private StepTests() {
    }

    static void all() {
        walksAndJumps();
        ceilings();
        upperBorder();
        sidewaysFirst();
        borders();
        falls();
        springsByKind();
        springsAsTheyAre();
        springsWithoutBounce();
        keysOpenDoors();
        doorsStaySolid();
        openDoorsHoldNothing();
        keysOnce();
        spikes();
        goals();
        firstCellDecides();
        fallsOutBelow();
        startInWalls();
    }

    /** Makes steps of the person 0; each row is an input, and the cell and the speed of the body then. */
    private static void steps(LedgeLevels x, int[][] rows) {
        for (int[] row : rows) {
            int answer = x.step(0, row[0]);
            String what = "step " + x.stepsOf(0) + ", input " + row[0];
            Check.due(what, row[1], answer);
            Check.due("the body behind " + what, row[1], x.body(0));
            Check.due("the speed behind " + what, row[2], x.speed(0));
            Check.due("the state behind " + what, 1, x.runState(0));
        }
    }

    private static void ends(LedgeLevels x, int input, int answer, int cell, int speed) {
        int steps = x.stepsOf(0);
        Check.due("the last step", answer, x.step(0, input));
        Check.due("the last cell", cell, x.body(0));
        Check.due("the last speed", speed, x.speed(0));
        Check.due("the state", answer == -2 ? 2 : 3, x.runState(0));
        Check.due("the steps", steps + 1, x.stepsOf(0));
        Check.badState(x, "a step behind the end", () -> x.step(0, 1));
    }

    private static LedgeLevels runOn(String... picture) {
        LedgeLevels x = new LedgeLevels();
        int work = Draw.work(x, 1, picture);
        Check.due("the run begins", x.start(0), x.run(0, work));
        return x;
    }

    private static void walksAndJumps() {
        Check.begin("steps, walking and jumping");
        LedgeLevels x = runOn(
            "S..........G",
            "############");
        Check.due("speed", 0, x.speed(0));
        steps(x, new int[][] {
            {LEFT, 72, 1}, {STAY, 72, 1}, {RIGHT, 73, 1}, {LEFT_UP, 48, -1}, {UP, 36, 0}, {UP, 36, 1},
            {RIGHT_UP, 49, 2}, {STAY, 73, 3}, {UP, 49, -1}, {RIGHT, 38, 0}, {RIGHT, 39, 1}, {LEFT, 50, 2},
            {LEFT, 73, 3}, {LEFT_UP, 48, -1},
        });
    }

    private static void ceilings() {
        Check.begin("steps, ceilings");
        LedgeLevels x = runOn(
            ".#..........",
            "#...........",
            "S..........G",
            "############");
        steps(x, new int[][] {
            {UP, 72, 0}, {STAY, 72, 1}, {RIGHT_UP, 61, 0}, {STAY, 61, 1}, {STAY, 73, 2}, {STAY, 73, 1},
        });
    }

    private static void upperBorder() {
        Check.begin("steps, the upper border");
        LedgeLevels x = runOn(
            "............",
            "...S.......G",
            "############",
            "............",
            "............",
            "............",
            "............",
            "............");
        steps(x, new int[][] {{UP, 3, 0}, {LEFT, 2, 1}, {UP, 14, 2}, {STAY, 14, 1}});
    }

    private static void sidewaysFirst() {
        Check.begin("steps, sideways comes first");
        LedgeLevels x = runOn(
            "#.#.........",
            "S..........G",
            "############");
        steps(x, new int[][] {{RIGHT_UP, 49, -1}, {RIGHT, 38, 0}, {LEFT, 37, 1}, {STAY, 49, 2}, {STAY, 73, 3}});
        steps(x, new int[][] {{RIGHT_UP, 74, 0}, {STAY, 74, 1}});
        x = runOn(
            "..#.........",
            "S#.........G",
            "############");
        steps(x, new int[][] {{RIGHT, 72, 1}, {RIGHT_UP, 48, -1}, {RIGHT, 37, 0}, {STAY, 37, 1}, {RIGHT, 50, 2}});
        steps(x, new int[][] {{RIGHT, 51, 1}, {LEFT, 50, 0}, {STAY, 50, 1}});
    }

    private static void borders() {
        Check.begin("steps, the left and the right border");
        LedgeLevels x = runOn(
            "G........#S.",
            "#########...",
            "############");
        steps(x, new int[][] {{RIGHT, 71, 1}, {RIGHT, 83, 2}, {RIGHT, 83, 1}, {RIGHT_UP, 59, -1}, {RIGHT, 47, 0}});
        x = runOn(
            "..........G.",
            "S...........",
            "############");
        steps(x, new int[][] {{LEFT, 72, 1}, {LEFT_UP, 48, -1}, {LEFT, 36, 0}, {LEFT, 36, 1}, {LEFT, 48, 2}});
    }

    private static void falls() {
        Check.begin("steps, falling");
        LedgeLevels x = runOn(
            "S...........",
            "............",
            "............",
            "............",
            "............",
            "............",
            "...........G",
            "############");
        steps(x, new int[][] {{UP, 0, 1}, {UP, 12, 2}, {STAY, 36, 3}, {UP, 72, 3}, {STAY, 72, 1}});
        x = runOn(
            "............",
            "S...........",
            "............",
            "............",
            "............",
            "............",
            "...........G",
            "############");
        steps(x, new int[][] {{STAY, 12, 1}, {STAY, 24, 2}, {STAY, 48, 3}, {STAY, 72, 0}, {STAY, 72, 1}});
    }

    private static LedgeLevels onSpring(char spring) {
        return runOn(
            "............",
            "S...........",
            "............",
            "............",
            "............",
            "............",
            "...........G",
            spring + "###########");
    }

    private static void springsByKind() {
        Check.begin("steps, springs of each kind");
        int[][] fall = {{STAY, 12, 1}, {STAY, 24, 2}, {STAY, 48, 3}};
        LedgeLevels x = onSpring('0');
        steps(x, fall);
        steps(x, new int[][] {{STAY, 72, -2}, {UP, 48, -1}, {STAY, 36, 0}, {STAY, 36, 1}, {STAY, 48, 2}});
        x = onSpring('1');
        steps(x, fall);
        steps(x, new int[][] {{STAY, 72, -3}, {RIGHT, 37, -2}, {STAY, 13, -1}, {STAY, 1, 0}, {STAY, 1, 1}});
        x = onSpring('2');
        steps(x, fall);
        steps(x, new int[][] {{STAY, 72, -4}, {STAY, 24, -3}, {STAY, 0, 0}, {STAY, 0, 1}, {STAY, 12, 2}});
    }

    private static void springsAsTheyAre() {
        Check.begin("steps, springs as they are");
        LedgeLevels x = onSpring('1');
        steps(x, new int[][] {{STAY, 12, 1}, {STAY, 24, 2}, {STAY, 48, 3}});
        x.setSpring(1, 1);
        steps(x, new int[][] {{STAY, 72, -1}, {STAY, 60, 0}, {STAY, 60, 1}, {STAY, 72, 2}});
        x.setSpring(1, 4);
        Check.due("the speed stays", 2, x.speed(0));
    }

    private static void springsWithoutBounce() {
        Check.begin("steps, springs that do not lift");
        LedgeLevels x = runOn(
            "0...........",
            "............",
            "S1.........G",
            "2###########");
        steps(x, new int[][] {{STAY, 72, 1}, {RIGHT, 72, 1}, {UP, 60, 0}, {STAY, 60, 1}, {STAY, 72, 2}});
        steps(x, new int[][] {{STAY, 72, 1}, {UP, 60, 0}, {RIGHT, 61, 1}, {RIGHT, 62, 1}, {RIGHT, 75, 2}});
        x = onSpring('2');
        int[][] exactly = {{RIGHT, 13, 1}, {STAY, 25, 2}, {STAY, 49, 3}, {STAY, 73, 0}, {RIGHT_UP, 50, -1}};
        steps(x, exactly);
        steps(x, new int[][] {{LEFT, 37, 0}, {LEFT, 36, 1}, {STAY, 48, 2}, {STAY, 72, 3}, {STAY, 72, 1}});
    }

    private static LedgeLevels overDoor(String row) {
        return runOn(
            "............",
            "S.........#.",
            "..........#.",
            "k.........#.",
            "D.........#.",
            "..........#.",
            row,
            "############");
    }

    private static void keysOpenDoors() {
        Check.begin("steps, keys and doors");
        LedgeLevels x = overDoor(".........G..");
        steps(x, new int[][] {{STAY, 12, 1}, {STAY, 24, 2}});
        Check.due("no key yet", 0, x.keys(0));
        steps(x, new int[][] {{STAY, 48, 3}});
        Check.due("the key is taken on the way", 1, x.keys(0));
        steps(x, new int[][] {{STAY, 72, 0}});
        x = runOn(
            "####........",
            "SkDG........",
            "############");
        steps(x, new int[][] {{RIGHT, 73, 1}, {RIGHT, 74, 1}});
        ends(x, RIGHT, -2, 75, 0);
    }

    private static void doorsStaySolid() {
        Check.begin("steps, doors that are not open");
        LedgeLevels x = overDoor("k........G..");
        steps(x, new int[][] {{STAY, 12, 1}, {STAY, 24, 2}, {STAY, 36, 0}, {STAY, 36, 1}, {UP, 12, -1}});
        Check.due("one of two keys", 1, x.keys(0));
        x = runOn(
            "GD..........",
            "kSDk........",
            "############");
        steps(x, new int[][] {{RIGHT, 73, 1}, {UP, 73, 0}, {RIGHT, 73, 1}, {LEFT, 72, 1}, {RIGHT, 73, 1}});
    }

    private static void openDoorsHoldNothing() {
        Check.begin("steps, doors of a grid without keys");
        LedgeLevels x = runOn(
            "SDDG........",
            "D###########");
        steps(x, new int[][] {{RIGHT, 73, 1}, {LEFT, 72, 1}, {STAY, 84, 2}});
        ends(x, STAY, -1, 84, 2);
        x = runOn(
            "S......G...k",
            "D###########");
        steps(x, new int[][] {{STAY, 72, 1}, {STAY, 72, 1}, {UP, 48, -1}});
    }

    private static void keysOnce() {
        Check.begin("steps, a key is taken once");
        LedgeLevels x = runOn(
            "kSkk.......G",
            "############");
        steps(x, new int[][] {{RIGHT, 74, 1}, {LEFT, 73, 1}, {RIGHT, 74, 1}});
        Check.due("one key", 1, x.keys(0));
        steps(x, new int[][] {{RIGHT, 75, 1}});
        Check.due("two keys", 2, x.keys(0));
        steps(x, new int[][] {{LEFT, 74, 1}, {LEFT, 73, 1}, {LEFT, 72, 1}});
        Check.due("three keys", 3, x.keys(0));
        LedgeLevels y = new LedgeLevels();
        y.begin(0);
        y.set(0, 72, 2);
        y.set(0, 74, 5);
        y.prove(0);
        y.run(0, y.offer(0));
        Check.due("a key at the start", 1, y.keys(0));
    }

    private static void spikes() {
        Check.begin("steps, spikes");
        LedgeLevels x = runOn(
            "............",
            "S...........",
            "............",
            "^...........",
            "............",
            "............",
            "...........G",
            "############");
        steps(x, new int[][] {{STAY, 12, 1}, {STAY, 24, 2}});
        ends(x, STAY, -1, 36, 2);
        String[] aside = {
            "S^.........G",
            "############",
        };
        x = runOn(aside);
        ends(x, RIGHT, -1, 73, 0);
        x = runOn(aside);
        ends(x, RIGHT_UP, -1, 73, -2);
        x = runOn(
            "^...........",
            "............",
            "S..........G",
            "############");
        ends(x, UP, -1, 48, -2);
    }

    private static void goals() {
        Check.begin("steps, goals");
        LedgeLevels x = runOn(
            "............",
            "S...........",
            "............",
            "G...........",
            "^...........",
            "............",
            "............",
            "############");
        steps(x, new int[][] {{STAY, 12, 1}, {STAY, 24, 2}});
        ends(x, STAY, -2, 36, 2);
        x = runOn(
            "SG..........",
            "############");
        ends(x, RIGHT_UP, -2, 73, -2);
        x = runOn(
            "G...........",
            "S...........",
            "############");
        ends(x, UP, -2, 60, -2);
    }

    private static void firstCellDecides() {
        Check.begin("steps, the first cell decides");
        String[] spikesFirst = {
            ".G..........",
            "S^..........",
            "############",
        };
        LedgeLevels x = runOn(spikesFirst);
        ends(x, RIGHT_UP, -1, 73, -2);
        x = runOn(
            ".^..........",
            "SG..........",
            "############");
        ends(x, RIGHT_UP, -2, 73, -2);
        x = runOn(
            "G...........",
            "^...........",
            "S..........G",
            "############");
        ends(x, UP, -1, 60, -2);
    }

    private static void fallsOutBelow() {
        Check.begin("steps, below the row 7");
        String[] holes = {
            "S.........#G",
            "#..#########",
        };
        LedgeLevels x = runOn(holes);
        steps(x, new int[][] {{RIGHT, 73, 1}, {STAY, 85, 2}});
        ends(x, UP, -1, 85, 2);
        x = runOn(holes);
        steps(x, new int[][] {{RIGHT, 73, 1}, {STAY, 85, 2}});
        ends(x, RIGHT, -1, 86, 2);
        x = runOn(holes);
        steps(x, new int[][] {{RIGHT, 73, 1}, {LEFT, 72, 0}, {UP, 48, -1}, {STAY, 36, 0}, {STAY, 36, 1}});
        steps(x, new int[][] {{RIGHT, 49, 2}, {STAY, 73, 3}});
        ends(x, STAY, -1, 85, 3);
    }

    private static void startInWalls() {
        Check.begin("steps, a start in a wall");
        LedgeLevels x = new LedgeLevels();
        x.begin(1);
        x.set(0, 85, 5);
        x.setStart(0, 84);
        x.prove(0);
        x.offer(0);
        Check.due("is no hindrance", 84, x.run(0, 0));
        steps(x, new int[][] {{UP, 84, 1}});
        ends(x, STAY, -1, 84, 1);
        x.run(0, 0);
        ends(x, RIGHT, -2, 85, 0);
        x.set(0, 60, 6);
        x.setStart(0, 60);
        x.prove(0);
        x.offer(0);
        x.run(0, 1);
        steps(x, new int[][] {{STAY, 60, 1}, {STAY, 72, 2}, {UP, 72, 0}});
    }
}
