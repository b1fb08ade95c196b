/** The edges in the promises 1 to 8 and 14 to 22. */
final class EdgesOfLevels {
    private EdgesOfLevels() {
    }

    static void all() {
        newObject();
        begin();
        twelveBegun();
        set();
        moreThanThreeKeys();
        setStart();
        undo();
        noneIsRemembered();
        redo();
        noneWasUndone();
        setSpring();
        proofsThatAreVoid();
        proofsThatAreNot();
        prove();
        refuted();
        keysOfEachRun();
        levels();
        at();
        start();
        edits();
        proof();
        shortest();
        shortestByEachInput();
        shortestWithSoFew();
        shortestOfBodiesThatGoOn();
        reachAtTheStart();
        reachBehindSteps();
        reachWithoutBeingLost();
        reachHavingWon();
        farthestColumn();
        farthestRow();
        farthestLikewise();
        farthestOfNone();
        strength();
    }

    private static LedgeLevels withLevel() {
        LedgeLevels x = new LedgeLevels();
        x.begin(0);
        return x;
    }

    private static LedgeLevels withGoal(int goal) {
        LedgeLevels x = withLevel();
        x.set(0, goal, 5);
        return x;
    }

    private static void newObject() {
        Edge.promise(1, "No levels and works.");
        LedgeLevels x = new LedgeLevels();
        Check.due("levels", 0, x.levels());
        Check.due("works", 0, x.works());
        Check.outOfBounds(x, "the level 0", () -> x.start(0));
        Check.outOfBounds(x, "the work 0", () -> x.author(0));
        for (int person = 0; person < 6; person++) {
            Check.due("no run of " + person, 0, x.runState(person));
            Check.due("no credit of " + person, 0, x.credit(person));
        }
    }

    private static void begin() {
        Edge.promise(2, "Begins a level.");
        LedgeLevels x = withLevel();
        x.set(0, 0, 1);
        x.setStart(0, 0);
        x.begin(0);
        Check.due("levels", 2, x.levels());
        Check.due("its cells are as at first", 0, x.at(1, 0));
        Check.due("its start is as at first", 72, x.start(1));
        Check.due("the one before stays", 1, x.at(0, 0));
        Edge.promise(2, "Returns its number.");
        for (int level = 2; level < 12; level++) {
            Check.due("the number", level, x.begin(level % 6));
        }
    }

    private static void twelveBegun() {
        Edge.promise(2, "if 12 were begun");
        LedgeLevels x = withGoal(72);
        x.prove(0);
        x.offer(0);
        for (int level = 1; level < 11; level++) {
            x.begin(0);
        }
        Check.due("the twelfth", 11, x.begin(5));
        Check.badState(x, "the thirteenth", () -> x.begin(5));
        Check.badState(x, "the thirteenth once more", () -> x.begin(0));
        Check.outOfBounds(x, "the thirteenth of no person", () -> x.begin(6));
        Check.due("levels", 12, x.levels());
    }

    private static void set() {
        Edge.promise(3, "Sets a cell of a level.");
        LedgeLevels x = withLevel();
        x.begin(1);
        x.set(1, 95, 8);
        Check.due("the cell", 8, x.at(1, 95));
        Check.due("that of the other level", 1, x.at(0, 95));
        Edge.promise(3, "kind: 0 to 8");
        for (int kind = 0; kind <= 8; kind++) {
            x.set(0, 0, kind);
            Check.due("the kind", kind, x.at(0, 0));
        }
        Check.badArgument(x, "the kind -1", () -> x.set(0, 0, -1));
        Check.badArgument(x, "the kind 9", () -> x.set(0, 0, 9));
        Edge.promise(3, "Returns what was there.");
        for (int before = 0; before <= 8; before++) {
            for (int kind = 0; kind <= 8; kind++) {
                x.set(1, 5, before);
                Check.due("what was there", before, x.set(1, 5, kind));
            }
        }
    }

    private static void moreThanThreeKeys() {
        Edge.promise(3, "if the grid would have more than 3 keys");
        LedgeLevels x = withLevel();
        x.set(0, 0, 2);
        x.set(0, 1, 2);
        Check.due("the third", 1, x.set(0, 95, 2));
        Check.badState(x, "a fourth", () -> x.set(0, 94, 2));
        Check.due("edits", 3, x.edits(0, true));
        Check.due("a key on a key", 2, x.set(0, 95, 2));
        Check.due("is an edit", 4, x.edits(0, true));
        for (int kind = 3; kind <= 8; kind++) {
            Check.due("another kind", kind == 3 ? 1 : kind - 1, x.set(0, 94, kind));
        }
        x.set(0, 0, 0);
        Check.due("one instead of another", 0, x.set(0, 2, 2));
        Check.badState(x, "and no more", () -> x.set(0, 0, 2));
    }

    private static void setStart() {
        Edge.promise(4, "Sets the start of a level");
        LedgeLevels x = withLevel();
        x.begin(0);
        x.setStart(1, 0);
        Check.due("the first cell", 0, x.start(1));
        x.setStart(1, 95);
        Check.due("the last cell", 95, x.start(1));
        Check.due("another level's", 72, x.start(0));
        Edge.promise(4, "that is no edit.");
        x.set(1, 5, 4);
        x.set(1, 6, 4);
        x.undo(1);
        x.setStart(1, 7);
        Check.due("edits", 1, x.edits(1, true));
        Check.due("undone ones", 1, x.edits(1, false));
        x.undo(1);
        Check.due("it is not undone", 7, x.start(1));
        x.redo(1);
        x.redo(1);
        Check.due("nor done again", 7, x.start(1));
        Edge.promise(4, "Returns the start before.");
        Check.due("as set", 7, x.setStart(1, 7));
        Check.due("the same", 7, x.setStart(1, 8));
        Check.due("another level's, as at first", 72, x.setStart(0, 0));
    }

    private static void undo() {
        Edge.promise(5, "Undoes an edit of a level.");
        LedgeLevels x = withLevel();
        x.begin(0);
        x.set(0, 0, 4);
        x.set(1, 0, 4);
        x.undo(1);
        Check.due("this one", 0, x.at(1, 0));
        Check.due("not that of another level", 4, x.at(0, 0));
        Edge.promise(5, "Returns its cell.");
        int[] cells = {0, 95, 11, 84, 0, 50};
        for (int cell : cells) {
            x.set(1, cell, 3);
        }
        for (int place = cells.length - 1; place >= 0; place--) {
            Check.due("the cell", cells[place], x.undo(1));
        }
    }

    private static void noneIsRemembered() {
        Edge.promise(5, "if none is remembered");
        LedgeLevels x = withGoal(74);
        x.begin(0);
        Check.badState(x, "a new level", () -> x.undo(1));
        x.prove(0);
        x.offer(0);
        x.copy(0, 1);
        Check.badState(x, "a copy", () -> x.undo(2));
        x.undo(0);
        Check.badState(x, "all undone", () -> x.undo(0));
        Check.due("that one is to do again", 1, x.edits(0, false));
        x.redo(0);
        Check.due("one done again", 74, x.undo(0));
        for (int edit = 0; edit < 41; edit++) {
            x.set(0, edit, 1);
        }
        for (int edit = 40; edit >= 1; edit--) {
            x.undo(0);
        }
        Check.badState(x, "one that is forgotten", () -> x.undo(0));
    }

    private static void redo() {
        Edge.promise(6, "Does an edit of a level again.");
        LedgeLevels x = withLevel();
        x.begin(0);
        for (int level = 0; level < 2; level++) {
            x.set(level, 0, 4);
            x.undo(level);
        }
        x.redo(1);
        Check.due("this one", 4, x.at(1, 0));
        Check.due("not that of another level", 0, x.at(0, 0));
        Edge.promise(6, "Returns its cell.");
        int[] cells = {0, 95, 11, 84, 0, 50};
        for (int cell : cells) {
            x.set(1, cell, 3);
        }
        for (int cell : cells) {
            x.undo(1);
        }
        for (int cell : cells) {
            Check.due("the cell", cell, x.redo(1));
        }
    }

    private static void noneWasUndone() {
        Edge.promise(6, "if none was undone");
        LedgeLevels x = withLevel();
        Check.badState(x, "a new level", () -> x.redo(0));
        x.set(0, 0, 4);
        Check.badState(x, "an edit that was not undone", () -> x.redo(0));
        x.undo(0);
        x.redo(0);
        Check.badState(x, "one that was done again", () -> x.redo(0));
        x.undo(0);
        x.set(0, 1, 4);
        Check.badState(x, "one that is forgotten by an edit", () -> x.redo(0));
        x.set(0, 72, 5);
        x.undo(0);
        x.redo(0);
        x.set(0, 3, 1);
        x.undo(0);
        x.prove(0);
        x.offer(0);
        x.copy(0, 0);
        Check.badState(x, "a copy of a level with one undone", () -> x.redo(1));
        Check.due("that level's", 3, x.redo(0));
    }

    private static void setSpring() {
        Edge.promise(7, "Sets the strength of a spring kind.");
        LedgeLevels x = new LedgeLevels();
        x.setSpring(0, 1);
        x.setSpring(0, 3);
        Check.due("the last one set", 3, x.strength(0));
        Edge.promise(7, "spring: 0 to 2");
        x.setSpring(2, 1);
        Check.due("the last kind", 1, x.strength(2));
        Check.outOfBounds(x, "the kind -1", () -> x.setSpring(-1, 1));
        Check.outOfBounds(x, "the kind 3", () -> x.setSpring(3, 1));
        Edge.promise(7, "strength: 1 to 4");
        x.setSpring(2, 4);
        Check.due("the greatest", 4, x.strength(2));
        x.setSpring(2, 1);
        Check.due("the least", 1, x.strength(2));
        Check.badArgument(x, "0", () -> x.setSpring(2, 0));
        Check.badArgument(x, "5", () -> x.setSpring(2, 5));
    }

    private static void proofsThatAreVoid() {
        Edge.promise(7, "Returns how many proofs are void by that.");
        for (int count = 0; count <= 12; count++) {
            LedgeLevels x = new LedgeLevels();
            for (int level = 0; level < 12; level++) {
                x.begin(0);
                x.set(level, 95, 7);
                x.set(level, 0, 7);
                x.set(level, 50 + level, 5);
                if (level < count) {
                    x.prove(level);
                }
            }
            Check.due("of twelve levels", count, x.setSpring(1, 1));
            for (int level = 0; level < 12; level++) {
                Check.due("the level " + level, -2, x.proof(level));
            }
            Check.due("once more", 0, x.setSpring(1, 3));
        }
    }

    private static void proofsThatAreNot() {
        Edge.promise(7, "Returns how many proofs are void");
        LedgeLevels x = withGoal(74);
        x.set(0, 3, 6);
        x.prove(0);
        x.offer(0);
        x.copy(0, 1);
        Check.due("no work, and no copy that is not proven", 1, x.setSpring(0, 1));
        x.prove(0);
        x.prove(1);
        Check.due("the same strength", 0, x.setSpring(0, 1));
        Check.due("a kind in no grid", 0, x.setSpring(1, 1));
        x.undo(0);
        x.prove(0);
        Check.due("a level whose spring is undone", 1, x.setSpring(0, 2));
        Check.due("its proof", 2, x.proof(0));
        x.redo(0);
        x.prove(0);
        x.set(1, 3, 7);
        x.prove(1);
        Check.due("a level whose spring is of another kind now", 1, x.setSpring(0, 3));
        Check.due("its proof", 2, x.proof(1));
    }

    private static void prove() {
        Edge.promise(8, "Proves a level.");
        LedgeLevels x = withGoal(74);
        x.begin(0);
        x.prove(0);
        Check.due("this one", 2, x.proof(0));
        Check.due("not another", -2, x.proof(1));
        Edge.promise(8, "Returns the number of steps of the shortest run that wins");
        for (int steps = 0; steps < 12; steps++) {
            LedgeLevels y = withGoal(72 + steps);
            Check.due("a walk", steps, y.prove(0));
            Check.due("once more", steps, y.prove(0));
            Check.due("as the proof", steps, y.proof(0));
        }
    }

    private static void refuted() {
        Edge.promise(8, "-1 if it is refuted.");
        LedgeLevels x = withLevel();
        Check.due("no goal", -1, x.prove(0));
        Check.due("once more", -1, x.prove(0));
        x.set(0, 5, 5);
        Check.due("a goal that is too high", -1, x.prove(0));
        x.set(0, 72, 4);
        x.set(0, 73, 5);
        Check.due("spikes at the start", -1, x.prove(0));
        x.set(0, 72, 0);
        Check.due("no spikes", 1, x.prove(0));
        x.set(0, 73, 3);
        x.set(0, 74, 5);
        x.set(0, 61, 1);
        x.set(0, 49, 1);
        x.set(0, 37, 1);
        x.set(0, 95, 2);
        Check.due("a door whose key nobody can take", -1, x.prove(0));
    }

    /** A key on one side and a door on the other: what one run has taken, another one has not. */
    private static void keysOfEachRun() {
        Edge.promise(8, "of the shortest run that wins;");
        LedgeLevels x = new LedgeLevels();
        int level = Draw.level(x, 0,
            "############",
            "k..SDG.....#",
            "############");
        Check.due("to the key and back", 8, x.prove(level));
        x.set(level, 74, 2);
        Check.due("another key on the way", 8, x.prove(level));
        x.set(level, 72, 0);
        Check.due("that key alone", 4, x.prove(level));
        Check.due("by all rows of inputs", 4, x.shortest(level, 5));
        x.set(level, 74, 4);
        x.set(level, 72, 2);
        Check.due("spikes on the way", -1, x.prove(level));
    }

    private static void levels() {
        Edge.promise(14, "Returns how many levels were begun.");
        LedgeLevels x = new LedgeLevels();
        Check.due("none", 0, x.levels());
        Check.outOfBounds(x, "a level of no person", () -> x.begin(6));
        for (int level = 0; level < 12; level++) {
            Check.due("so many", level, x.levels());
            x.begin(0);
        }
        Check.badState(x, "a thirteenth", () -> x.begin(0));
        Check.due("twelve", 12, x.levels());
    }

    private static void at() {
        Edge.promise(15, "Returns what is in a cell of a level.");
        LedgeLevels x = withLevel();
        x.begin(0);
        for (int kind = 0; kind <= 8; kind++) {
            x.set(0, 0, kind);
            x.set(0, 95, kind);
            Check.due("the first cell", kind, x.at(0, 0));
            Check.due("the last cell", kind, x.at(0, 95));
            Check.due("another level's first", 0, x.at(1, 0));
            Check.due("another level's last", 1, x.at(1, 95));
        }
        x.undo(0);
        Check.due("as undone", 7, x.at(0, 95));
        x.redo(0);
        Check.due("as done again", 8, x.at(0, 95));
    }

    private static void start() {
        Edge.promise(16, "Returns the start of a level.");
        LedgeLevels x = withLevel();
        Check.due("at first", 72, x.start(0));
        for (int cell = 0; cell < 96; cell++) {
            x.setStart(0, cell);
            Check.due("as set", cell, x.start(0));
        }
        Check.outOfBounds(x, "a start that is refused", () -> x.setStart(0, 96));
        Check.due("as before", 95, x.start(0));
    }

    private static void edits() {
        Edge.promise(17, "Returns how many edits of a level can be undone, or done again.");
        LedgeLevels x = withLevel();
        x.begin(0);
        for (int edit = 0; edit < 45; edit++) {
            Check.due("to undo", Math.min(edit, 40), x.edits(0, true));
            Check.due("to do again", 0, x.edits(0, false));
            x.set(0, edit, 3);
        }
        for (int edit = 0; edit < 40; edit++) {
            Check.due("to undo", 40 - edit, x.edits(0, true));
            Check.due("to do again", edit, x.edits(0, false));
            x.undo(0);
        }
        Edge.promise(17, "Returns how many.");
        Check.due("none to undo", 0, x.edits(0, true));
        Check.due("all to do again", 40, x.edits(0, false));
        Check.due("none of another level", 0, x.edits(1, true));
        Check.due("nor to do again", 0, x.edits(1, false));
    }

    private static void proof() {
        Edge.promise(18, "Returns the proof of a level.");
        LedgeLevels x = withGoal(72);
        x.begin(0);
        x.prove(1);
        Check.due("one level's", -2, x.proof(0));
        Check.due("another's", -1, x.proof(1));
        Edge.promise(18, "Returns the number of steps");
        x.prove(0);
        Check.due("none", 0, x.proof(0));
        x.setStart(0, 73);
        x.prove(0);
        Check.due("one", 1, x.proof(0));
        Edge.promise(18, "-1 if it is refuted, -2 if the proof is void.");
        x.undo(0);
        Check.due("void", -2, x.proof(0));
        x.prove(0);
        Check.due("refuted", -1, x.proof(0));
        x.redo(0);
        Check.due("void, having been refuted", -2, x.proof(0));
    }

    private static void shortest() {
        Edge.promise(19, "whether it is proven or not");
        LedgeLevels x = withGoal(74);
        Check.due("a void proof", 2, x.shortest(0, 5));
        Check.due("is void still", -2, x.proof(0));
        x.prove(0);
        Check.due("a proof", 2, x.shortest(0, 5));
        x.undo(0);
        x.prove(0);
        Check.due("a refuted one", -1, x.shortest(0, 5));
        Check.due("is refuted still", -1, x.proof(0));
        x.redo(0);
        Check.due("not by the proof before", 2, x.shortest(0, 5));
        Edge.promise(19, "most: 0 to 5");
        Check.due("none", -1, x.shortest(0, 0));
        Check.due("five", 2, x.shortest(0, 5));
        Check.badArgument(x, "-1", () -> x.shortest(0, -1));
        Check.badArgument(x, "6", () -> x.shortest(0, 6));
        Edge.promise(19, "Returns the number of steps");
        x.set(0, 73, 5);
        Check.due("of two ways the one with fewer", 1, x.shortest(0, 5));
    }

    /** Goals that a body comes to by one input alone, as the first and as the second step. */
    private static void shortestByEachInput() {
        Edge.promise(19, "by all rows of inputs, those with fewer steps first.");
        int[] first = {75, 77, 51, 52, 53};
        for (int goal : first) {
            LedgeLevels x = withLevel();
            x.setStart(0, 76);
            x.set(0, goal, 5);
            Check.due("the goal " + goal, 1, x.shortest(0, 5));
        }
        int[] second = {74, 78, 39, 41, 50, 54, 88};
        for (int goal : second) {
            LedgeLevels x = withLevel();
            x.setStart(0, 76);
            x.set(0, goal, 5);
            Check.due("the goal " + goal, 2, x.shortest(0, 5));
            Check.due("with too few", -1, x.shortest(0, 1));
        }
    }

    private static void shortestWithSoFew() {
        Edge.promise(19, "-1 if there is no run with so few.");
        for (int steps = 0; steps <= 7; steps++) {
            LedgeLevels x = withGoal(72 + steps);
            for (int most = 0; most <= 5; most++) {
                int due = steps <= most ? steps : -1;
                Check.due(steps + " steps, at most " + most, due, x.shortest(0, most));
            }
        }
        LedgeLevels x = withGoal(73);
        x.set(0, 72, 4);
        Check.due("lost at the start", -1, x.shortest(0, 5));
    }

    private static void shortestOfBodiesThatGoOn() {
        Edge.promise(19, "the shortest run of a level");
        LedgeLevels x = new LedgeLevels();
        int level = Draw.level(x, 0,
            "############",
            "#G^S.......#",
            "############");
        Check.due("not through spikes", -1, x.shortest(level, 5));
        Check.due("nor by the search", -1, x.prove(level));
        Check.due("the goal is not reached", 8, x.reach(level));
        x.set(level, 74, 0);
        Check.due("without them", 2, x.shortest(level, 5));
        x.set(level, 74, 5);
        Check.due("the first goal", 1, x.shortest(level, 5));
    }

    private static void reachAtTheStart() {
        Edge.promise(20, "or at the start");
        LedgeLevels x = withLevel();
        x.setStart(0, 30);
        int[] around = {18, 29, 31, 42};
        for (int cell : around) {
            x.set(0, cell, 1);
        }
        Check.due("the start alone", 1, x.reach(0));
        x.set(0, 30, 2);
        Check.due("also on a key", 1, x.reach(0));
        x.set(0, 30, 1);
        Check.due("also in a wall", 1, x.reach(0));
        x.set(0, 29, 0);
        Check.holds("else more", x.reach(0) > 1);
    }

    private static void reachBehindSteps() {
        Edge.promise(20, "those where it can be behind some steps");
        LedgeLevels x = withLevel();
        for (int cell = 0; cell < 96; cell++) {
            if (cell % 12 > 0) {
                x.set(0, cell, 1);
            }
        }
        Check.due("72, 48 and 36, but not 60, which it only passes", 3, x.reach(0));
        x.setStart(0, 0);
        Check.due("0, 12, 36, 72 and those by jumps: 48", 5, x.reach(0));
        x.set(0, 84, 0);
        Check.due("no floor: 0, 12, 36 and 72, but not 84, which it only passes", 4, x.reach(0));
        x.setStart(0, 72);
        Check.due("no floor: 72 and 84", 2, x.reach(0));
        x.setStart(0, 84);
        Check.due("no floor: 84", 1, x.reach(0));
    }

    private static void reachWithoutBeingLost() {
        Edge.promise(20, "without being lost");
        LedgeLevels x = withLevel();
        int all = x.reach(0);
        for (int row = 0; row < 7; row++) {
            x.set(0, 12 * row + 11, 4);
        }
        Check.due("without the three cells of the last column", all - 3, x.reach(0));
        x.set(0, 72, 4);
        Check.due("lost at the start", 0, x.reach(0));
        x.setStart(0, 73);
        Check.due("and without the cell of these spikes", all - 4, x.reach(0));
    }

    private static void reachHavingWon() {
        Edge.promise(20, "also having won.");
        LedgeLevels x = new LedgeLevels();
        int level = Draw.level(x, 0,
            "############",
            "#..S..G....#",
            "############");
        Check.due("with the goal, but nothing behind it", 6, x.reach(level));
        x.set(level, 74, 5);
        Check.due("two goals", 5, x.reach(level));
        x.set(level, 75, 5);
        Check.due("won at the start", 1, x.reach(level));
        Edge.promise(20, "Returns to how many cells a body can come in a level");
        LedgeLevels y = withGoal(73);
        Check.holds("a goal that is found first does not end it", y.reach(0) > 20);
        y.setStart(0, 0);
        int high = y.reach(0);
        y.setStart(0, 72);
        Check.holds("another start, another number", y.reach(0) < high);
        y.setStart(0, 0);
        Check.due("that of before", high, y.reach(0));
    }

    private static void farthestColumn() {
        Edge.promise(21, "Returns the cell with the greatest column");
        LedgeLevels x = withLevel();
        for (int wall = 1; wall < 12; wall++) {
            LedgeLevels y = new LedgeLevels();
            y.begin(0);
            for (int row = 0; row < 7; row++) {
                y.set(0, 12 * row + wall, 1);
            }
            Check.due("a wall in the column " + wall, 36 + wall - 1, y.farthest(0));
        }
        Check.due("no wall", 47, x.farthest(0));
        x.set(0, 47, 5);
        Check.due("a goal", 47, x.farthest(0));
        x.set(0, 73, 5);
        Check.due("a goal that is found first does not end it", 47, x.farthest(0));
        Edge.promise(21, "Returns the cell;");
        x.setStart(0, 11);
        Check.due("the start", 11, x.farthest(0));
    }

    private static void farthestRow() {
        Edge.promise(21, "of several with the row with the least number");
        for (int row = 0; row < 8; row++) {
            LedgeLevels x = withLevel();
            x.setStart(0, 12 * row + 11);
            int due = row < 3 || row == 7 ? row : 3;
            Check.due("a start in the row " + row, 12 * due + 11, x.farthest(0));
        }
        LedgeLevels shaft = new LedgeLevels();
        int level = Draw.level(shaft, 0,
            "############",
            "S..........#",
            "............",
            "############");
        Check.due("the last column has a wall above", 83, shaft.farthest(level));
    }

    private static void farthestLikewise() {
        Edge.promise(21, "to which a body can come likewise.");
        LedgeLevels x = withLevel();
        for (int row = 0; row < 7; row++) {
            x.set(0, 12 * row + 11, 4);
        }
        Check.due("not where it is lost", 46, x.farthest(0));
        x.set(0, 47, 5);
        Check.due("where it has won", 47, x.farthest(0));
        LedgeLevels y = withLevel();
        y.setStart(0, 83);
        y.set(0, 71, 1);
        y.set(0, 82, 1);
        y.set(0, 95, 0);
        Check.due("the start, not where it falls", 83, y.farthest(0));
        y.setStart(0, 84);
        y.set(0, 85, 0);
        Check.due("in the row 7", 85, y.farthest(0));
    }

    private static void farthestOfNone() {
        Edge.promise(21, "-1 if there is none, as it is lost at the start.");
        LedgeLevels x = withLevel();
        for (int cell = 0; cell < 96; cell += 5) {
            x.setStart(0, cell);
            int kind = x.at(0, cell);
            Check.holds("there is one", x.farthest(0) >= 0);
            x.set(0, cell, 4);
            Check.due("spikes at the start " + cell, -1, x.farthest(0));
            x.set(0, cell, kind);
        }
        x.setStart(0, 95);
        x.set(0, 94, 4);
        Check.due("lost by each step", 95, x.farthest(0));
    }

    private static void strength() {
        Edge.promise(22, "Returns the strength of a spring kind.");
        LedgeLevels x = new LedgeLevels();
        Check.due("the first kind", 2, x.strength(0));
        Check.due("the last kind", 4, x.strength(2));
        x.setSpring(0, 4);
        x.setSpring(2, 1);
        Check.due("the first kind as set", 4, x.strength(0));
        Check.due("the one between", 3, x.strength(1));
        Check.due("the last kind as set", 1, x.strength(2));
        Check.badArgument(x, "a strength that is refused", () -> x.setSpring(2, 5));
        Check.due("as before", 1, x.strength(2));
    }
}
