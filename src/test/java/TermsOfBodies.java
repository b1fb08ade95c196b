/** The edges in the section "Terms": what is solid, how a body is stepped, and what it comes to. */
final class TermsOfBodies {
    private static final int LEFT = Walk.LEFT;
    private static final int STAY = Walk.STAY;
    private static final int RIGHT = Walk.RIGHT;
    private static final int LEFT_UP = Walk.LEFT_UP;
    private static final int UP = Walk.UP;
    private static final int RIGHT_UP = Walk.RIGHT_UP;

    private static final int WALL = 1;
    private static final int KEY = 2;
    private static final int DOOR = 3;
    private static final int SPIKES = 4;
    private static final int GOAL = 5;

    private TermsOfBodies() {
    }

    static void all() {
        bodyHas();
        bodyAtFirst();
        solidAside();
        solidBelow();
        solidAbove();
        doorsByKeys();
        leftAndRightBorder();
        upperBorder();
        belowTheLastRow();
        standsBySpeed();
        standsBySolid();
        inputs();
        firstSpeed();
        oneCellAside();
        asManyCellsDown();
        asManyCellsUp();
        noCells();
        stoppedByTheNext();
        stoppedAtOnce();
        springsLift();
        springsLiftOnlyDown();
        speedsOfUnstopped();
        threeAtMost();
    }

    /** All air over the floor of the row 7, with the start, and pairs of a cell and a kind; by the person 1. */
    private static LedgeLevels level(int start, int... cellsAndKinds) {
        LedgeLevels x = new LedgeLevels();
        x.begin(1);
        x.setStart(0, start);
        for (int place = 0; place + 1 < cellsAndKinds.length; place += 2) {
            x.set(0, cellsAndKinds[place], cellsAndKinds[place + 1]);
        }
        return x;
    }

    /** The person 0 runs the level 0, which must be one that can be won. */
    private static LedgeLevels running(LedgeLevels x) {
        Check.holds("the level cannot be won", x.prove(0) > 0);
        Check.due("the run begins", x.start(0), x.run(0, x.offer(0)));
        return x;
    }

    private static void bodyHas() {
        Edge.terms("A body has a cell, a speed, and the keys that it has taken");
        LedgeLevels x = running(level(72, 74, KEY, 80, GOAL));
        int[][] due = {{73, 1, 0}, {74, 1, 1}, {75, 1, 1}};
        for (int[] row : due) {
            x.step(0, RIGHT);
            Check.due("the cell", row[0], x.body(0));
            Check.due("the speed", row[1], x.speed(0));
            Check.due("the keys", row[2], x.keys(0));
        }
    }

    private static void bodyAtFirst() {
        Edge.terms("at first the start, 0 and none.");
        for (int start = 0; start < 84; start++) {
            int aside = start % 12 == 11 ? start - 1 : start + 1;
            LedgeLevels x = running(level(start, aside, GOAL));
            Check.due("the cell", start, x.body(0));
            Check.due("the speed", 0, x.speed(0));
            Check.due("the keys", 0, x.keys(0));
        }
    }

    /** By their kinds: whether a body without keys is kept out, the grid having a key elsewhere. */
    private static final boolean[] IS_SOLID = {false, true, false, true, false, false, true, true, true};

    private static void solidAside() {
        Edge.terms("Solid are walls, springs, doors");
        for (int kind = 0; kind <= 8; kind++) {
            LedgeLevels x = running(level(77, 76, kind, 78, kind, 0, KEY, 53, GOAL));
            x.step(0, LEFT);
            Check.due("left to the kind " + kind, IS_SOLID[kind] ? 77 : 76, x.body(0));
            x.run(0, 0);
            x.step(0, RIGHT);
            Check.due("right to the kind " + kind, IS_SOLID[kind] ? 77 : 78, x.body(0));
        }
    }

    private static void solidBelow() {
        Edge.terms("Solid are walls, springs");
        for (int kind = 0; kind <= 8; kind++) {
            LedgeLevels x = running(level(60, 72, kind, 0, KEY, 61, GOAL));
            Check.due("over the kind " + kind, 60, x.step(0, STAY));
            x.step(0, STAY);
            Check.due("a step on, over the kind " + kind, IS_SOLID[kind] ? 60 : 72, x.body(0));
        }
    }

    private static void solidAbove() {
        Edge.terms("Solid are");
        for (int kind = 0; kind <= 8; kind++) {
            LedgeLevels x = running(level(72, 60, kind, 0, KEY, 73, GOAL));
            boolean isLast = kind == SPIKES || kind == GOAL;
            x.step(0, UP);
            Check.due("up to the kind " + kind, IS_SOLID[kind] ? 72 : isLast ? 60 : 48, x.body(0));
            Check.due("the speed then", IS_SOLID[kind] ? 0 : isLast ? -2 : -1, x.speed(0));
        }
    }

    /** A corridor with so many keys on the left, and doors on the right: they open with the last key. */
    private static void doorsByKeys() {
        Edge.terms("doors as long as the body has not taken all keys of the grid");
        for (int keys = 0; keys <= 3; keys++) {
            LedgeLevels x = level(75, 76, DOOR, 77, GOAL, 64, WALL, 63, WALL);
            for (int key = 1; key <= keys; key++) {
                x.set(0, 75 - key, KEY);
            }
            running(x);
            for (int taken = 0; taken <= keys; taken++) {
                x.run(0, 0);
                Walk.times(x, 0, LEFT, taken);
                Walk.times(x, 0, RIGHT, taken);
                Check.due("keys taken", taken, x.keys(0));
                int due = taken == keys ? 76 : 75;
                Check.due("with " + taken + " of " + keys + " keys", due, x.step(0, RIGHT));
            }
        }
    }

    private static void leftAndRightBorder() {
        Edge.terms("what is beyond the left, the right and the upper border");
        for (int row = 0; row < 8; row++) {
            int left = 12 * row;
            int right = left + 11;
            LedgeLevels x = running(withoutWalls(level(left, left + 1, GOAL)));
            LedgeLevels y = running(withoutWalls(level(right, right - 1, GOAL)));
            Check.due("left of the column 0, row " + row, left, x.step(0, LEFT));
            Check.due("right of the column 11, row " + row, right, y.step(0, RIGHT));
        }
    }

    private static LedgeLevels withoutWalls(LedgeLevels x) {
        for (int cell = 0; cell < 96; cell++) {
            if (x.at(0, cell) == WALL) {
                x.set(0, cell, 0);
            }
        }
        return x;
    }

    private static void upperBorder() {
        Edge.terms("and the upper border");
        for (int column = 0; column < 11; column++) {
            LedgeLevels x = running(level(column, 12 + column, WALL, column + 1, GOAL));
            Walk.steps(x, new int[][] {{UP, column, 0}});
            LedgeLevels y = running(level(12 + column, 24 + column, WALL, 13 + column, GOAL));
            Walk.steps(y, new int[][] {{UP, column, 0}});
        }
    }

    private static void belowTheLastRow() {
        Edge.terms("below the row 7 is nothing.");
        for (int cell = 84; cell < 96; cell++) {
            int aside = cell == 95 ? 94 : cell + 1;
            LedgeLevels x = running(level(cell, aside, GOAL));
            Walk.steps(x, new int[][] {{UP, cell, 1}});
            Walk.ends(x, UP, -1, cell, 1);
        }
    }

    /** A spring of the strength 1 sends a body up with -1, from a cell with the spring below: it does not stand. */
    private static void standsBySpeed() {
        Edge.terms("The body stands if its speed is not below 0");
        for (int strength = 1; strength <= 4; strength++) {
            int[] inputs = {STAY, UP};
            for (int input : inputs) {
                LedgeLevels x = level(48, 84, 6, 82, GOAL);
                x.setSpring(0, strength);
                running(x);
                Walk.steps(x, new int[][] {{STAY, 48, 1}, {STAY, 60, 2}, {STAY, 72, -strength}});
                Walk.steps(x, new int[][] {{input, 72 - 12 * strength, 1 - strength}});
            }
        }
        LedgeLevels x = running(level(72, 80, GOAL));
        Walk.steps(x, new int[][] {{UP, 48, -1}, {UP, 36, 0}, {UP, 36, 1}, {UP, 48, 2}, {UP, 72, 3}, {UP, 48, -1}});
        x.run(0, 0);
        Walk.steps(x, new int[][] {{STAY, 72, 1}, {UP, 48, -1}});
    }

    private static void standsBySolid() {
        Edge.terms("and the cell below its own is solid.");
        for (int row = 0; row < 6; row++) {
            int start = 12 * row;
            LedgeLevels x = running(level(start, start + 1, GOAL));
            Walk.steps(x, new int[][] {{UP, start, 1}, {UP, start + 12, 2}});
        }
        LedgeLevels x = running(level(60, 72, WALL, 61, GOAL));
        Walk.steps(x, new int[][] {{UP, 36, -1}});
    }

    private static void inputs() {
        Edge.terms("its remainder by 3, less 1, is a direction (-1 left, 0, 1 right), and with 3 to 5 the body jumps.");
        LedgeLevels x = running(level(77, 82, GOAL));
        int[] due = {76, 77, 78, 52, 53, 54};
        for (int input = 0; input < 6; input++) {
            x.run(0, 0);
            Check.due("input " + input, due[input], x.step(0, input));
            Check.due("the speed then", input < 3 ? 1 : -1, x.speed(0));
        }
        x.run(0, 0);
        Check.badArgument(x, "input -1", () -> x.step(0, -1));
        Check.badArgument(x, "input 6", () -> x.step(0, 6));
    }

    private static void firstSpeed() {
        Edge.terms("its speed becomes -2 (upwards) if it jumps, and 0 otherwise.");
        LedgeLevels x = running(level(36, 80, GOAL));
        int[][] fall = {{STAY, 36, 1}, {STAY, 48, 2}, {STAY, 72, 3}};
        Walk.steps(x, fall);
        Walk.steps(x, new int[][] {{STAY, 72, 1}});
        x.run(0, 0);
        Walk.steps(x, fall);
        Walk.steps(x, new int[][] {{UP, 48, -1}});
        x.run(0, 0);
        Walk.steps(x, fall);
        Walk.steps(x, new int[][] {{RIGHT, 73, 1}, {RIGHT_UP, 50, -1}});
    }

    private static void oneCellAside() {
        Edge.terms("Then it goes one cell in its direction, if that is not solid.");
        LedgeLevels x = running(level(41, 80, GOAL));
        Walk.steps(x, new int[][] {{RIGHT, 42, 1}, {RIGHT, 55, 2}, {LEFT, 78, 3}, {LEFT, 77, 1}, {LEFT_UP, 52, -1}});
        x.set(0, 54, WALL);
        x.set(0, 52, WALL);
        running(x);
        x.run(0, 1);
        Walk.steps(x, new int[][] {{STAY, 41, 1}, {RIGHT, 42, 0}, {LEFT, 41, 1}});
        x.run(0, 1);
        Walk.steps(x, new int[][] {{STAY, 41, 1}, {STAY, 53, 2}, {RIGHT, 77, 3}});
        x.run(0, 1);
        Walk.steps(x, new int[][] {{STAY, 41, 1}, {STAY, 53, 2}, {LEFT, 77, 3}});
    }

    private static void asManyCellsDown() {
        Edge.terms("or down, cell by cell, as many cells as its speed tells");
        LedgeLevels x = level(0, 1, GOAL, 84, 0);
        running(x);
        Walk.steps(x, new int[][] {{STAY, 0, 1}, {STAY, 12, 2}, {STAY, 36, 3}, {STAY, 72, 3}});
        Walk.ends(x, STAY, -1, 84, 3);
        LedgeLevels y = running(level(12, 13, GOAL, 84, 0));
        Walk.steps(y, new int[][] {{STAY, 12, 1}, {STAY, 24, 2}, {STAY, 48, 3}, {STAY, 84, 3}});
        Walk.ends(y, STAY, -1, 84, 3);
    }

    private static void asManyCellsUp() {
        Edge.terms("Then it goes up (with a speed below 0)");
        int[][] ups = {
            {60}, {48, 36}, {36, 12, 0}, {24, 0},
        };
        int[][] speeds = {
            {0}, {-1, 0}, {-2, -1, 0}, {-3, 0},
        };
        for (int strength = 1; strength <= 4; strength++) {
            LedgeLevels x = level(48, 84, 6, 49, GOAL);
            x.setSpring(0, strength);
            running(x);
            Walk.times(x, 0, STAY, 3);
            Check.due("the spring's speed", -strength, x.speed(0));
            for (int step = 0; step < ups[strength - 1].length; step++) {
                Walk.steps(x, new int[][] {{STAY, ups[strength - 1][step], speeds[strength - 1][step]}});
            }
        }
    }

    private static void noCells() {
        Edge.terms("as many cells as its speed tells, as long as the next one is not solid.");
        LedgeLevels x = running(level(71, 72, WALL, 83, 0, 70, GOAL));
        Walk.steps(x, new int[][] {{STAY, 71, 1}, {STAY, 83, 2}, {STAY, 83, 1}});
        LedgeLevels y = running(level(60, 72, WALL, 82, GOAL));
        Walk.steps(y, new int[][] {{RIGHT, 61, 1}, {STAY, 73, 2}});
    }

    private static void stoppedByTheNext() {
        Edge.terms("If one of these is solid, it is stopped there: its speed becomes 0");
        int[] kinds = {WALL, DOOR};
        for (int kind : kinds) {
            LedgeLevels x = running(level(0, 60, kind, 11, KEY, 1, GOAL));
            Walk.steps(x, new int[][] {{STAY, 0, 1}, {STAY, 12, 2}, {STAY, 36, 3}, {STAY, 48, 0}, {STAY, 48, 1}});
        }
        int[] above = {WALL, DOOR, 6, 7, 8};
        for (int kind : above) {
            LedgeLevels x = running(level(72, 48, kind, 11, KEY, 73, GOAL));
            Walk.steps(x, new int[][] {{UP, 60, 0}, {STAY, 60, 1}, {STAY, 72, 2}});
        }
    }

    /** A body in the air that goes aside to over something solid does not move down at all. */
    private static void stoppedAtOnce() {
        Edge.terms("it is stopped there");
        LedgeLevels x = running(level(36, 49, WALL, 62, GOAL));
        Walk.steps(x, new int[][] {{STAY, 36, 1}, {RIGHT, 37, 0}, {STAY, 37, 1}});
        LedgeLevels y = running(level(48, 61, 8, 62, GOAL));
        Walk.steps(y, new int[][] {{STAY, 48, 1}, {RIGHT, 49, -4}, {STAY, 1, -3}, {STAY, 1, 0}});
        LedgeLevels z = running(level(72, 61, 0, 49, WALL, 74, GOAL));
        Walk.steps(z, new int[][] {{RIGHT_UP, 61, 0}});
        LedgeLevels w = running(level(72, 61, WALL, 74, GOAL));
        Walk.steps(w, new int[][] {{RIGHT_UP, 73, 0}, {STAY, 73, 1}});
    }

    private static void springsLift() {
        Edge.terms("that spring's strength, upwards (-2 for the strength 2, and so on).");
        for (int spring = 0; spring < 3; spring++) {
            for (int strength = 1; strength <= 4; strength++) {
                LedgeLevels x = level(48, 84, 6 + spring, 50, GOAL);
                x.setSpring((spring + 1) % 3, strength % 4 + 1);
                x.setSpring((spring + 2) % 3, strength % 4 + 1);
                x.setSpring(spring, strength);
                running(x);
                Walk.steps(x, new int[][] {{STAY, 48, 1}, {STAY, 60, 2}, {STAY, 72, -strength}});
            }
        }
    }

    private static void springsLiftOnlyDown() {
        Edge.terms("but if it was going down, and the next one is a spring");
        for (int kind = 6; kind <= 8; kind++) {
            LedgeLevels x = running(level(72, 60, kind, 84, kind, 82, GOAL));
            Walk.steps(x, new int[][] {{STAY, 72, 1}, {STAY, 72, 1}, {UP, 72, 0}, {STAY, 72, 1}});
            LedgeLevels y = running(level(36, 84, kind, 82, GOAL));
            Walk.steps(y, new int[][] {{STAY, 36, 1}, {STAY, 48, 2}, {STAY, 72, 3}, {STAY, 72, 1}});
        }
    }

    private static void speedsOfUnstopped() {
        Edge.terms("If it was not stopped, its speed becomes 1 more");
        LedgeLevels x = running(level(60, 72, WALL, 73, 8, 82, GOAL));
        Walk.steps(x, new int[][] {{RIGHT, 61, 1}, {STAY, 61, 1}});
        LedgeLevels y = running(level(24, 84, 8, 82, GOAL));
        Walk.steps(y, new int[][] {{STAY, 24, 1}, {STAY, 36, 2}, {STAY, 60, 3}, {STAY, 72, -4}, {STAY, 24, -3}});
        Walk.steps(y, new int[][] {{RIGHT, 1, 0}, {RIGHT, 2, 1}, {RIGHT, 15, 2}, {RIGHT, 40, 3}, {STAY, 76, 3}});
        LedgeLevels z = running(level(36, 84, 7, 82, GOAL));
        Walk.steps(z, new int[][] {{STAY, 36, 1}, {RIGHT, 49, 2}, {LEFT, 72, 3}, {STAY, 72, 1}});
        LedgeLevels w = running(level(48, 84, 7, 82, GOAL));
        Walk.steps(w, new int[][] {{STAY, 48, 1}, {STAY, 60, 2}, {STAY, 72, -3}, {STAY, 36, -2}, {STAY, 12, -1}});
        Walk.steps(w, new int[][] {{STAY, 0, 0}, {STAY, 0, 1}});
    }

    private static void threeAtMost() {
        Edge.terms("but 3 at most.");
        LedgeLevels x = running(level(0, 1, GOAL, 84, 0));
        Walk.steps(x, new int[][] {{STAY, 0, 1}, {STAY, 12, 2}, {STAY, 36, 3}, {STAY, 72, 3}});
        Walk.ends(x, STAY, -1, 84, 3);
    }
}
