/** The edges in the section "Terms": cells, springs, levels, and what is remembered of edits. */
final class TermsOfLevels {
    private TermsOfLevels() {
    }

    static void all() {
        cells();
        rowZeroOnTop();
        numbersOfCells();
        kindsOfCells();
        strengths();
        firstStrengths();
        numbersOfLevels();
        twelveLevels();
        sixPersons();
        firstGrid();
        threeKeys();
        keysAreCountedAsTheyAre();
        firstStart();
        startWhateverIsThere();
        oneCellIsSet();
        editOfTheSameKind();
        fortyEdits();
        fortyEditsOfEachLevel();
        fortyUndone();
        earliestIsForgotten();
        othersStayAsTheyWere();
        undoTakesTheLast();
        redoDoesTheLastUndone();
        undoneAreForgotten();
        undoneAreKept();
    }

    private static void cells() {
        Edge.terms("Grids have 12 columns, 0 to 11, and 8 rows, 0 to 7");
        LedgeLevels x = new LedgeLevels();
        x.begin(0);
        for (int cell = 0; cell < 96; cell++) {
            Check.due("set of the cell " + cell, cell < 84 ? 0 : 1, x.set(0, cell, 3));
            Check.due("what is there then", 3, x.at(0, cell));
            x.setStart(0, cell);
            Check.due("the start", cell, x.start(0));
        }
        int[] wrong = {-1, 96, -12, 108, Integer.MIN_VALUE, Integer.MAX_VALUE};
        for (int cell : wrong) {
            Check.outOfBounds(x, "set of the cell " + cell, () -> x.set(0, cell, 3));
            Check.outOfBounds(x, "setStart to the cell " + cell, () -> x.setStart(0, cell));
            Check.outOfBounds(x, "at of the cell " + cell, () -> x.at(0, cell));
        }
    }

    private static void rowZeroOnTop() {
        Edge.terms("the row 0 on top");
        LedgeLevels x = Walk.on(
            "S...........",
            "............",
            "............",
            "............",
            "............",
            "............",
            "...........G",
            "############");
        Walk.steps(x, new int[][] {{Walk.STAY, 0, 1}, {Walk.STAY, 12, 2}, {Walk.STAY, 36, 3}, {Walk.STAY, 72, 3}});
        Walk.steps(x, new int[][] {{Walk.UP, 48, -1}});
    }

    /** In each row a body walks from the column 0 to the column 11; in the row 7, over nothing, but one cell. */
    private static void numbersOfCells() {
        Edge.terms("the cell in the column c and row r has the number 12 * r + c.");
        for (int row = 0; row < 8; row++) {
            LedgeLevels x = new LedgeLevels();
            x.begin(0);
            for (int column = 0; column < 12 && row < 7; column++) {
                x.set(0, 12 * (row + 1) + column, 1);
            }
            int last = row < 7 ? 11 : 1;
            x.set(0, 12 * row + last, 5);
            x.setStart(0, 12 * row);
            Check.due("the walk along the row " + row, last, x.prove(0));
            x.run(0, x.offer(0));
            for (int column = 1; column < last; column++) {
                Check.due("a step to the column " + column, 12 * row + column, x.step(0, Walk.RIGHT));
            }
            Check.due("the last step", -2, x.step(0, Walk.RIGHT));
        }
    }

    private static void kindsOfCells() {
        Edge.terms("air (0), a wall (1), a key (2), a door (3), spikes (4), the goal (5), or a spring");
        int[] due = {73, 72, 73, 72, -1, -2, 72, 72, 72};
        for (int kind = 0; kind < due.length; kind++) {
            LedgeLevels x = new LedgeLevels();
            x.begin(0);
            x.set(0, 48, 5);
            x.set(0, 0, 2);
            x.set(0, 73, kind);
            Check.due("a jump to the goal", 1, x.prove(0));
            x.run(0, x.offer(0));
            Check.due("a step to the kind " + kind, due[kind], x.step(0, Walk.RIGHT));
            Check.due("keys then", kind == 2 ? 1 : 0, x.keys(0));
        }
    }

    private static void strengths() {
        Edge.terms("Springs have a strength by their kind, 1 to 4");
        LedgeLevels x = new LedgeLevels();
        int[] held = {2, 3, 4};
        for (int spring = 0; spring < 3; spring++) {
            for (int strength = 1; strength <= 4; strength++) {
                x.setSpring(spring, strength);
                held[spring] = strength;
                for (int kind = 0; kind < 3; kind++) {
                    Check.due("the strength of the kind " + kind, held[kind], x.strength(kind));
                }
            }
            int kind = spring;
            Check.badArgument(x, "the strength 0", () -> x.setSpring(kind, 0));
            Check.badArgument(x, "the strength 5", () -> x.setSpring(kind, 5));
        }
    }

    private static void firstStrengths() {
        Edge.terms("at first 2, 3 and 4.");
        LedgeLevels x = new LedgeLevels();
        for (int spring = 0; spring < 3; spring++) {
            Check.due("the strength of the kind " + spring, 2 + spring, x.strength(spring));
        }
    }

    private static LedgeLevels withWork() {
        LedgeLevels x = new LedgeLevels();
        x.begin(0);
        x.set(0, 74, 5);
        x.prove(0);
        x.offer(0);
        return x;
    }

    private static void numbersOfLevels() {
        Edge.terms("Levels are numbered from 0 on");
        LedgeLevels x = withWork();
        Check.due("one level", 1, x.levels());
        for (int level = 1; level < 12; level += 2) {
            Check.due("a copy's number", level, x.copy(0, 1));
            Check.due("as many levels", level + 1, x.levels());
            if (level < 11) {
                Check.due("a begun one's number", level + 1, x.begin(1));
                Check.due("as many levels", level + 2, x.levels());
            }
        }
    }

    private static void twelveLevels() {
        Edge.terms("at most 12 are begun.");
        LedgeLevels x = withWork();
        LedgeLevels y = withWork();
        for (int level = 1; level < 11; level++) {
            x.begin(0);
            y.copy(0, 1);
        }
        Check.due("the twelfth, copied", 11, x.copy(0, 5));
        Check.due("the twelfth, begun", 11, y.begin(5));
        Check.badState(x, "the thirteenth, begun", () -> x.begin(0));
        Check.badState(x, "the thirteenth, copied", () -> x.copy(0, 0));
        Check.badState(y, "the thirteenth, begun", () -> y.begin(0));
        Check.badState(y, "the thirteenth, copied", () -> y.copy(0, 0));
        Check.due("levels", 12, x.levels());
        Check.due("levels", 12, y.levels());
        Check.due("the last one is as any", 0, y.set(11, 0, 4));
        Check.outOfBounds(x, "level 12", () -> x.set(12, 0, 4));
    }

    private static void sixPersons() {
        Edge.terms("a person 0 to 5");
        for (int person = 0; person < 6; person++) {
            LedgeLevels x = new LedgeLevels();
            x.begin(person);
            x.set(0, 72, 5);
            x.prove(0);
            Check.due("the author", person, x.author(x.offer(0)));
        }
        LedgeLevels x = new LedgeLevels();
        Check.outOfBounds(x, "person -1", () -> x.begin(-1));
        Check.outOfBounds(x, "person 6", () -> x.begin(6));
    }

    private static void firstGrid() {
        Edge.terms("at first all air but for walls in the row 7");
        LedgeLevels x = new LedgeLevels();
        for (int level = 0; level < 12; level++) {
            x.begin(0);
            for (int cell = 0; cell < 96; cell++) {
                Check.due("cell " + cell, cell <= 83 ? 0 : 1, x.at(level, cell));
            }
        }
    }

    private static void threeKeys() {
        Edge.terms("with at most 3 keys");
        LedgeLevels x = new LedgeLevels();
        x.begin(0);
        Check.due("the first key", 0, x.set(0, 0, 2));
        Check.due("the second", 1, x.set(0, 95, 2));
        Check.due("the third", 0, x.set(0, 50, 2));
        for (int cell = 0; cell < 96; cell++) {
            int place = cell;
            if (x.at(0, cell) != 2) {
                Check.badState(x, "a fourth in the cell " + cell, () -> x.set(0, place, 2));
            } else {
                Check.due("a key on a key", 2, x.set(0, cell, 2));
            }
        }
        x.begin(0);
        Check.due("another level has its own", 0, x.set(1, 0, 2));
    }

    private static void keysAreCountedAsTheyAre() {
        Edge.terms("with at most 3 keys, and a start");
        LedgeLevels x = new LedgeLevels();
        x.begin(0);
        for (int kind = 0; kind <= 8; kind++) {
            x.set(0, 1, 2);
            x.set(0, 2, 2);
            x.set(0, 3, 2);
            x.set(0, 2, kind);
            Check.due("behind a key that became " + kind, kind == 2 ? 3 : 2, keysIn(x, 0));
            if (kind != 2) {
                Check.due("there is a third one", 0, x.set(0, 4, 2));
                Check.badState(x, "and no fourth", () -> x.set(0, 5, 2));
            } else {
                Check.badState(x, "no fourth", () -> x.set(0, 4, 2));
                x.set(0, 4, 0);
            }
            x.set(0, 4, 0);
        }
        x.undo(0);
        Check.badState(x, "a fourth, the third being back by undoing", () -> x.set(0, 5, 2));
        x.redo(0);
        Check.due("a third, that one being gone again", 0, x.set(0, 5, 2));
        Check.badState(x, "then no fourth", () -> x.set(0, 4, 2));
    }

    private static int keysIn(LedgeLevels x, int level) {
        int count = 0;
        for (int cell = 0; cell < 96; cell++) {
            count += x.at(level, cell) == 2 ? 1 : 0;
        }
        return count;
    }

    private static void firstStart() {
        Edge.terms("at first the cell 72 (column 0, row 6)");
        LedgeLevels x = new LedgeLevels();
        for (int level = 0; level < 12; level++) {
            x.begin(level % 6);
            Check.due("the start", 72, x.start(level));
        }
    }

    private static void startWhateverIsThere() {
        Edge.terms("whatever is there");
        LedgeLevels x = new LedgeLevels();
        x.begin(0);
        for (int kind = 0; kind <= 8; kind++) {
            x.set(0, 72, kind);
            Check.due("the start stays", 72, x.start(0));
            x.set(0, 20 + kind, kind);
            x.setStart(0, 20 + kind);
            Check.due("the start on the kind " + kind, 20 + kind, x.start(0));
            int won = kind == 5 ? 0 : -1;
            Check.due("a search from there", won, x.prove(0));
            Check.holds("it comes to the start, but from spikes", kind == 4 ? x.reach(0) == 0 : x.reach(0) > 0);
            x.setStart(0, 72);
            x.set(0, 20 + kind, 0);
            x.set(0, 72, 0);
        }
    }

    private static void oneCellIsSet() {
        Edge.terms("An edit sets a cell");
        LedgeLevels x = new LedgeLevels();
        x.begin(0);
        x.begin(1);
        int[] places = {0, 11, 12, 83, 84, 95};
        for (int place : places) {
            StringBuilder due = new StringBuilder(Seen.grid(x, 0));
            due.setCharAt(place, '7');
            x.set(0, place, 7);
            Check.due("the grid behind the cell " + place, due.toString(), Seen.grid(x, 0));
        }
        x.begin(1);
        Check.due("the grid of another level", Seen.grid(x, 2), Seen.grid(x, 1));
    }

    private static void editOfTheSameKind() {
        Edge.terms("an edit is remembered, also if it sets what was there");
        LedgeLevels x = new LedgeLevels();
        x.begin(0);
        x.set(0, 5, 4);
        x.set(0, 5, 4);
        x.set(0, 95, 1);
        x.set(0, 0, 0);
        Check.due("edits", 4, x.edits(0, true));
        Check.due("air on air", 0, x.undo(0));
        Check.due("a wall on a wall", 95, x.undo(0));
        Check.due("spikes on spikes", 5, x.undo(0));
        Check.due("the spikes stay", 4, x.at(0, 5));
        Check.due("the first edit", 5, x.undo(0));
        Check.due("no spikes", 0, x.at(0, 5));
        Check.due("all are undone", 4, x.edits(0, false));
    }

    private static void edit(LedgeLevels x, int level, int count) {
        for (int edit = 0; edit < count; edit++) {
            x.set(level, edit, 3);
        }
    }

    private static void undo(LedgeLevels x, int level, int count) {
        for (int edit = 0; edit < count; edit++) {
            x.undo(level);
        }
    }

    private static void fortyEdits() {
        Edge.terms("at most 40 of a level");
        for (int count = 38; count <= 42; count++) {
            int edits = count;
            LedgeLevels x = new LedgeLevels();
            x.begin(0);
            edit(x, 0, edits);
            int remembered = Math.min(edits, 40);
            Check.due(edits + " edits", remembered, x.edits(0, true));
            undo(x, 0, remembered);
            Check.badState(x, "one more to undo, of " + edits, () -> x.undo(0));
            Check.due("undone, of " + edits, remembered, x.edits(0, false));
        }
    }

    private static void fortyEditsOfEachLevel() {
        Edge.terms("at most 40 of a level, the earliest");
        LedgeLevels x = new LedgeLevels();
        x.begin(0);
        x.begin(0);
        edit(x, 0, 41);
        edit(x, 1, 39);
        Check.due("one level's", 40, x.edits(0, true));
        Check.due("the other's", 39, x.edits(1, true));
        undo(x, 0, 40);
        Check.due("the first is forgotten in the one", 3, x.at(0, 0));
        undo(x, 1, 39);
        Check.due("and not in the other", 0, x.at(1, 0));
    }

    private static void fortyUndone() {
        Edge.terms("at most 40");
        LedgeLevels x = new LedgeLevels();
        x.begin(0);
        edit(x, 0, 40);
        undo(x, 0, 40);
        Check.due("undone", 40, x.edits(0, false));
        for (int edit = 0; edit < 40; edit++) {
            Check.due("done again", edit, x.redo(0));
        }
        Check.badState(x, "no more to do again", () -> x.redo(0));
        x.set(0, 60, 4);
        Check.due("one more edit", 40, x.edits(0, true));
        undo(x, 0, 40);
        Check.due("the earliest was forgotten", 3, x.at(0, 0));
        Check.due("the next was not", 0, x.at(0, 1));
    }

    private static void earliestIsForgotten() {
        Edge.terms("the earliest one being forgotten first");
        LedgeLevels x = new LedgeLevels();
        x.begin(0);
        edit(x, 0, 42);
        for (int edit = 41; edit >= 2; edit--) {
            Check.due("undone", edit, x.undo(0));
            Check.due("what is there then", 0, x.at(0, edit));
        }
        Check.badState(x, "the first two are forgotten", () -> x.undo(0));
        Check.due("the first stays", 3, x.at(0, 0));
        Check.due("the second stays", 3, x.at(0, 1));
        x.redo(0);
        x.undo(0);
        edit(x, 0, 40);
        x.undo(0);
        x.set(0, 50, 3);
        undo(x, 0, 40);
        Check.badState(x, "forty, none forgotten behind an undone one", () -> x.undo(0));
        Check.due("the third was none but undone", 0, x.at(0, 2));
    }

    /** Forty-three edits of two cells: the kinds before and behind each stand with the edit, not its place. */
    private static void othersStayAsTheyWere() {
        Edge.terms("the earliest one being forgotten first.");
        LedgeLevels x = new LedgeLevels();
        x.begin(0);
        for (int edit = 0; edit < 43; edit++) {
            x.set(0, 50 + edit % 2, kindOf(edit));
        }
        for (int edit = 42; edit >= 3; edit--) {
            Check.due("undone", 50 + edit % 2, x.undo(0));
            Check.due("the kind before", kindOf(edit - 2), x.at(0, 50 + edit % 2));
        }
        for (int edit = 3; edit < 43; edit++) {
            Check.due("done again", 50 + edit % 2, x.redo(0));
            Check.due("the kind behind", kindOf(edit), x.at(0, 50 + edit % 2));
        }
    }

    private static int kindOf(int edit) {
        return edit < 0 ? 0 : 3 + edit * 5 % 6;
    }

    private static void undoTakesTheLast() {
        Edge.terms("Undoing takes the last remembered edit back");
        LedgeLevels x = new LedgeLevels();
        x.begin(0);
        for (int kind = 1; kind <= 8; kind++) {
            x.set(0, 60, kind);
        }
        x.set(0, 61, 1);
        Check.due("the last one's cell", 61, x.undo(0));
        for (int kind = 7; kind >= 0; kind--) {
            Check.due("the cell", 60, x.undo(0));
            Check.due("the kind before", kind, x.at(0, 60));
        }
        Check.badState(x, "no more", () -> x.undo(0));
    }

    private static void redoDoesTheLastUndone() {
        Edge.terms("doing again does the last one that was undone once more");
        LedgeLevels x = new LedgeLevels();
        x.begin(0);
        for (int kind = 1; kind <= 8; kind++) {
            x.set(0, 60, kind);
            x.set(0, 70 + kind, kind);
        }
        undo(x, 0, 16);
        for (int kind = 1; kind <= 8; kind++) {
            Check.due("the cell", 60, x.redo(0));
            Check.due("its kind", kind, x.at(0, 60));
            Check.due("undone once more", 60, x.undo(0));
            Check.due("its kind", kind - 1, x.at(0, 60));
            Check.due("done once more", 60, x.redo(0));
            Check.due("the cell", 70 + kind, x.redo(0));
            Check.due("its kind", kind, x.at(0, 70 + kind));
        }
        Check.badState(x, "no more", () -> x.redo(0));
    }

    private static void undoneAreForgotten() {
        Edge.terms("an edit makes all undone ones forgotten.");
        for (int undone = 1; undone <= 40; undone += 13) {
            LedgeLevels x = new LedgeLevels();
            x.begin(0);
            edit(x, 0, 40);
            undo(x, 0, undone);
            Check.due("undone", undone, x.edits(0, false));
            x.set(0, 95, 1);
            Check.due("none undone, also by an edit that sets what was there", 0, x.edits(0, false));
            Check.badState(x, "none to do again", () -> x.redo(0));
            Check.due("the others stay", 41 - undone, x.edits(0, true));
            x.undo(0);
            Check.due("that edit is all to do again", 1, x.edits(0, false));
            Check.due("its cell", 95, x.redo(0));
        }
    }

    private static void undoneAreKept() {
        Edge.terms("an edit makes all undone ones");
        LedgeLevels x = withWork();
        x.begin(0);
        edit(x, 1, 5);
        undo(x, 1, 3);
        x.set(0, 3, 4);
        x.setStart(1, 50);
        x.prove(1);
        x.setSpring(0, 1);
        x.copy(0, 0);
        x.reach(1);
        Check.badArgument(x, "an edit that is refused", () -> x.set(1, 0, 9));
        Check.due("undone", 3, x.edits(1, false));
        Check.due("the last one undone", 2, x.redo(1));
    }
}
