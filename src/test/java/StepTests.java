/** The rule of steps, of which the promises 8, 12, 13, 19 to 21 and 31 to 35 tell: bodies stepped by hand. */
final class StepTests {
    private static final int LEFT = Walk.LEFT;
    private static final int STAY = Walk.STAY;
    private static final int RIGHT = Walk.RIGHT;
    private static final int LEFT_UP = Walk.LEFT_UP;
    private static final int UP = Walk.UP;
    private static final int RIGHT_UP = Walk.RIGHT_UP;

    private StepTests() {
    }

    static void all() {
        walksAndJumps();
        ceilings();
        upperBorder();
        sidewaysFirst();
        borders();
        falls();
        springsByKind();
        springsAsTheyAre();
        springsWithoutBounce();
        keysOpenDoors();
        doorsStaySolid();
        openDoorsHoldNothing();
        keysOnce();
        spikes();
        goals();
        firstCellDecides();
        fallsOutBelow();
        startInWalls();
    }

    private static void walksAndJumps() {
        Check.begin("steps, walking and jumping");
        LedgeLevels x = Walk.on(
            "S..........G",
            "############");
        Check.due("speed", 0, x.speed(0));
        Walk.steps(x, new int[][] {
            {LEFT, 72, 1}, {STAY, 72, 1}, {RIGHT, 73, 1}, {LEFT_UP, 48, -1}, {UP, 36, 0}, {UP, 36, 1},
            {RIGHT_UP, 49, 2}, {STAY, 73, 3}, {UP, 49, -1}, {RIGHT, 38, 0}, {RIGHT, 39, 1}, {LEFT, 50, 2},
            {LEFT, 73, 3}, {LEFT_UP, 48, -1},
        });
    }

    private static void ceilings() {
        Check.begin("steps, ceilings");
        LedgeLevels x = Walk.on(
            ".#..........",
            "#...........",
            "S..........G",
            "############");
        Walk.steps(x, new int[][] {
            {UP, 72, 0}, {STAY, 72, 1}, {RIGHT_UP, 61, 0}, {STAY, 61, 1}, {STAY, 73, 2}, {STAY, 73, 1},
        });
    }

    private static void upperBorder() {
        Check.begin("steps, the upper border");
        LedgeLevels x = Walk.on(
            "............",
            "...S.......G",
            "############",
            "............",
            "............",
            "............",
            "............",
            "............");
        Walk.steps(x, new int[][] {{UP, 3, 0}, {LEFT, 2, 1}, {UP, 14, 2}, {STAY, 14, 1}});
    }

    private static void sidewaysFirst() {
        Check.begin("steps, sideways comes first");
        LedgeLevels x = Walk.on(
            "#.#.........",
            "S..........G",
            "############");
        Walk.steps(x, new int[][] {{RIGHT_UP, 49, -1}, {RIGHT, 38, 0}, {LEFT, 37, 1}, {STAY, 49, 2}, {STAY, 73, 3}});
        Walk.steps(x, new int[][] {{RIGHT_UP, 74, 0}, {STAY, 74, 1}});
        x = Walk.on(
            "..#.........",
            "S#.........G",
            "############");
        Walk.steps(x, new int[][] {{RIGHT, 72, 1}, {RIGHT_UP, 48, -1}, {RIGHT, 37, 0}, {STAY, 37, 1}, {RIGHT, 50, 2}});
        Walk.steps(x, new int[][] {{RIGHT, 51, 1}, {LEFT, 50, 0}, {STAY, 50, 1}});
    }

    private static void borders() {
        Check.begin("steps, the left and the right border");
        LedgeLevels x = Walk.on(
            "G........#S.",
            "#########...",
            "############");
        Walk.steps(x, new int[][] {{RIGHT, 71, 1}, {RIGHT, 83, 2}, {RIGHT, 83, 1}, {RIGHT_UP, 59, -1}, {RIGHT, 47, 0}});
        x = Walk.on(
            "..........G.",
            "S...........",
            "############");
        Walk.steps(x, new int[][] {{LEFT, 72, 1}, {LEFT_UP, 48, -1}, {LEFT, 36, 0}, {LEFT, 36, 1}, {LEFT, 48, 2}});
    }

    private static void falls() {
        Check.begin("steps, falling");
        LedgeLevels x = Walk.on(
            "S...........",
            "............",
            "............",
            "............",
            "............",
            "............",
            "...........G",
            "############");
        Walk.steps(x, new int[][] {{UP, 0, 1}, {UP, 12, 2}, {STAY, 36, 3}, {UP, 72, 3}, {STAY, 72, 1}});
        x = Walk.on(
            "............",
            "S...........",
            "............",
            "............",
            "............",
            "............",
            "...........G",
            "############");
        Walk.steps(x, new int[][] {{STAY, 12, 1}, {STAY, 24, 2}, {STAY, 48, 3}, {STAY, 72, 0}, {STAY, 72, 1}});
    }

    private static LedgeLevels onSpring(char spring) {
        return Walk.on(
            "............",
            "S...........",
            "............",
            "............",
            "............",
            "............",
            "...........G",
            spring + "###########");
    }

    private static void springsByKind() {
        Check.begin("steps, springs of each kind");
        int[][] fall = {{STAY, 12, 1}, {STAY, 24, 2}, {STAY, 48, 3}};
        LedgeLevels x = onSpring('0');
        Walk.steps(x, fall);
        Walk.steps(x, new int[][] {{STAY, 72, -2}, {UP, 48, -1}, {STAY, 36, 0}, {STAY, 36, 1}, {STAY, 48, 2}});
        x = onSpring('1');
        Walk.steps(x, fall);
        Walk.steps(x, new int[][] {{STAY, 72, -3}, {RIGHT, 37, -2}, {STAY, 13, -1}, {STAY, 1, 0}, {STAY, 1, 1}});
        x = onSpring('2');
        Walk.steps(x, fall);
        Walk.steps(x, new int[][] {{STAY, 72, -4}, {STAY, 24, -3}, {STAY, 0, 0}, {STAY, 0, 1}, {STAY, 12, 2}});
    }

    private static void springsAsTheyAre() {
        Check.begin("steps, springs as they are");
        LedgeLevels x = onSpring('1');
        Walk.steps(x, new int[][] {{STAY, 12, 1}, {STAY, 24, 2}, {STAY, 48, 3}});
        x.setSpring(1, 1);
        Walk.steps(x, new int[][] {{STAY, 72, -1}, {STAY, 60, 0}, {STAY, 60, 1}, {STAY, 72, 2}});
        x.setSpring(1, 4);
        Check.due("the speed stays", 2, x.speed(0));
    }

    private static void springsWithoutBounce() {
        Check.begin("steps, springs that do not lift");
        LedgeLevels x = Walk.on(
            "0...........",
            "............",
            "S1.........G",
            "2###########");
        Walk.steps(x, new int[][] {{STAY, 72, 1}, {RIGHT, 72, 1}, {UP, 60, 0}, {STAY, 60, 1}, {STAY, 72, 2}});
        Walk.steps(x, new int[][] {{STAY, 72, 1}, {UP, 60, 0}, {RIGHT, 61, 1}, {RIGHT, 62, 1}, {RIGHT, 75, 2}});
        x = onSpring('2');
        int[][] exactly = {{RIGHT, 13, 1}, {STAY, 25, 2}, {STAY, 49, 3}, {STAY, 73, 0}, {RIGHT_UP, 50, -1}};
        Walk.steps(x, exactly);
        Walk.steps(x, new int[][] {{LEFT, 37, 0}, {LEFT, 36, 1}, {STAY, 48, 2}, {STAY, 72, 3}, {STAY, 72, 1}});
    }

    private static LedgeLevels overDoor(String row) {
        return Walk.on(
            "............",
            "S.........#.",
            "..........#.",
            "k.........#.",
            "D.........#.",
            "..........#.",
            row,
            "############");
    }

    private static void keysOpenDoors() {
        Check.begin("steps, keys and doors");
        LedgeLevels x = overDoor(".........G..");
        Walk.steps(x, new int[][] {{STAY, 12, 1}, {STAY, 24, 2}});
        Check.due("no key yet", 0, x.keys(0));
        Walk.steps(x, new int[][] {{STAY, 48, 3}});
        Check.due("the key is taken on the way", 1, x.keys(0));
        Walk.steps(x, new int[][] {{STAY, 72, 0}});
        x = Walk.on(
            "####........",
            "SkDG........",
            "############");
        Walk.steps(x, new int[][] {{RIGHT, 73, 1}, {RIGHT, 74, 1}});
        Walk.ends(x, RIGHT, -2, 75, 0);
    }

    private static void doorsStaySolid() {
        Check.begin("steps, doors that are not open");
        LedgeLevels x = overDoor("k........G..");
        Walk.steps(x, new int[][] {{STAY, 12, 1}, {STAY, 24, 2}, {STAY, 36, 0}, {STAY, 36, 1}, {UP, 12, -1}});
        Check.due("one of two keys", 1, x.keys(0));
        x = Walk.on(
            "GD..........",
            "kSDk........",
            "############");
        Walk.steps(x, new int[][] {{RIGHT, 73, 1}, {UP, 73, 0}, {RIGHT, 73, 1}, {LEFT, 72, 1}, {RIGHT, 73, 1}});
    }

    private static void openDoorsHoldNothing() {
        Check.begin("steps, doors of a grid without keys");
        LedgeLevels x = Walk.on(
            "SDDG........",
            "D###########");
        Walk.steps(x, new int[][] {{RIGHT, 73, 1}, {LEFT, 72, 1}, {STAY, 84, 2}});
        Walk.ends(x, STAY, -1, 84, 2);
        x = Walk.on(
            "S......G...k",
            "D###########");
        Walk.steps(x, new int[][] {{STAY, 72, 1}, {STAY, 72, 1}, {UP, 48, -1}});
    }

    private static void keysOnce() {
        Check.begin("steps, a key is taken once");
        LedgeLevels x = Walk.on(
            "kSkk.......G",
            "############");
        Walk.steps(x, new int[][] {{RIGHT, 74, 1}, {LEFT, 73, 1}, {RIGHT, 74, 1}});
        Check.due("one key", 1, x.keys(0));
        Walk.steps(x, new int[][] {{RIGHT, 75, 1}});
        Check.due("two keys", 2, x.keys(0));
        Walk.steps(x, new int[][] {{LEFT, 74, 1}, {LEFT, 73, 1}, {LEFT, 72, 1}});
        Check.due("three keys", 3, x.keys(0));
        LedgeLevels y = new LedgeLevels();
        y.begin(0);
        y.set(0, 72, 2);
        y.set(0, 74, 5);
        y.prove(0);
        y.run(0, y.offer(0));
        Check.due("a key at the start", 1, y.keys(0));
    }

    private static void spikes() {
        Check.begin("steps, spikes");
        LedgeLevels x = Walk.on(
            "............",
            "S...........",
            "............",
            "^...........",
            "............",
            "............",
            "...........G",
            "############");
        Walk.steps(x, new int[][] {{STAY, 12, 1}, {STAY, 24, 2}});
        Walk.ends(x, STAY, -1, 36, 2);
        String[] aside = {
            "S^.........G",
            "############",
        };
        x = Walk.on(aside);
        Walk.ends(x, RIGHT, -1, 73, 0);
        x = Walk.on(aside);
        Walk.ends(x, RIGHT_UP, -1, 73, -2);
        x = Walk.on(
            "^...........",
            "............",
            "S..........G",
            "############");
        Walk.ends(x, UP, -1, 48, -2);
    }

    private static void goals() {
        Check.begin("steps, goals");
        LedgeLevels x = Walk.on(
            "............",
            "S...........",
            "............",
            "G...........",
            "^...........",
            "............",
            "............",
            "############");
        Walk.steps(x, new int[][] {{STAY, 12, 1}, {STAY, 24, 2}});
        Walk.ends(x, STAY, -2, 36, 2);
        x = Walk.on(
            "SG..........",
            "############");
        Walk.ends(x, RIGHT_UP, -2, 73, -2);
        x = Walk.on(
            "G...........",
            "S...........",
            "############");
        Walk.ends(x, UP, -2, 60, -2);
    }

    private static void firstCellDecides() {
        Check.begin("steps, the first cell decides");
        String[] spikesFirst = {
            ".G..........",
            "S^..........",
            "############",
        };
        LedgeLevels x = Walk.on(spikesFirst);
        Walk.ends(x, RIGHT_UP, -1, 73, -2);
        x = Walk.on(
            ".^..........",
            "SG..........",
            "############");
        Walk.ends(x, RIGHT_UP, -2, 73, -2);
        x = Walk.on(
            "G...........",
            "^...........",
            "S..........G",
            "############");
        Walk.ends(x, UP, -1, 60, -2);
    }

    private static void fallsOutBelow() {
        Check.begin("steps, below the row 7");
        String[] holes = {
            "S.........#G",
            "#..#########",
        };
        LedgeLevels x = Walk.on(holes);
        Walk.steps(x, new int[][] {{RIGHT, 73, 1}, {STAY, 85, 2}});
        Walk.ends(x, UP, -1, 85, 2);
        x = Walk.on(holes);
        Walk.steps(x, new int[][] {{RIGHT, 73, 1}, {STAY, 85, 2}});
        Walk.ends(x, RIGHT, -1, 86, 2);
        x = Walk.on(holes);
        Walk.steps(x, new int[][] {{RIGHT, 73, 1}, {LEFT, 72, 0}, {UP, 48, -1}, {STAY, 36, 0}, {STAY, 36, 1}});
        Walk.steps(x, new int[][] {{RIGHT, 49, 2}, {STAY, 73, 3}});
        Walk.ends(x, STAY, -1, 85, 3);
    }

    private static void startInWalls() {
        Check.begin("steps, a start in a wall");
        LedgeLevels x = new LedgeLevels();
        x.begin(1);
        x.set(0, 85, 5);
        x.setStart(0, 84);
        x.prove(0);
        x.offer(0);
        Check.due("is no hindrance", 84, x.run(0, 0));
        Walk.steps(x, new int[][] {{UP, 84, 1}});
        Walk.ends(x, STAY, -1, 84, 1);
        x.run(0, 0);
        Walk.ends(x, RIGHT, -2, 85, 0);
        x.set(0, 60, 6);
        x.setStart(0, 60);
        x.prove(0);
        x.offer(0);
        x.run(0, 1);
        Walk.steps(x, new int[][] {{STAY, 60, 1}, {STAY, 72, 2}, {UP, 72, 0}});
    }
}
