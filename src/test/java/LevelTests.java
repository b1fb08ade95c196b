/** Promises 1 to 6 and 14 to 17: levels and their edits. */
final class LevelTests {
    private LevelTests() {
    }

    static void all() {
        newObject();
        begin();
        beginTwelve();
        set();
        setRefuses();
        setCountsKeys();
        setVoidsProof();
        setStart();
        undo();
        undoGoesInOrder();
        redo();
        editsForgetUndone();
        fortyEdits();
        fortyEditsOfOneCell();
        levels();
        at();
        start();
        edits();
    }

    private static void newObject() {
        Check.begin("promise 1, a new object");
        LedgeLevels x = new LedgeLevels();
        Check.due("levels", 0, x.levels());
        Check.due("works", 0, x.works());
        Check.due("strength of 0", 2, x.strength(0));
        Check.due("strength of 1", 3, x.strength(1));
        Check.due("strength of 2", 4, x.strength(2));
        for (int person = 0; person < 6; person++) {
            Check.due("run of " + person, 0, x.runState(person));
            Check.due("credit of " + person, 0, x.credit(person));
        }
        Check.outOfBounds(x, "a level of a new object", () -> x.proof(0));
        Check.outOfBounds(x, "a work of a new object", () -> x.best(0));
        x.setSpring(0, 4);
        x.begin(0);
        LedgeLevels other = new LedgeLevels();
        Check.due("objects share no springs", 2, other.strength(0));
        Check.due("objects share no levels", 0, other.levels());
    }

    private static void begin() {
        Check.begin("promise 2, begin");
        LedgeLevels x = new LedgeLevels();
        Check.due("first", 0, x.begin(5));
        Check.due("second", 1, x.begin(0));
        StringBuilder first = new StringBuilder();
        for (int cell = 0; cell < 96; cell++) {
            first.append(cell < 84 ? 0 : 1);
        }
        Check.due("its grid", first.toString(), Seen.grid(x, 1));
        Check.due("its start", 72, x.start(1));
        Check.due("its proof", -2, x.proof(1));
        Check.due("its edits", 0, x.edits(1, true));
        Check.due("its undone edits", 0, x.edits(1, false));
        Check.outOfBounds(x, "person 6", () -> x.begin(6));
        Check.outOfBounds(x, "person -1", () -> x.begin(-1));
        x.set(0, 72, 5);
        x.prove(0);
        Check.due("author of what is offered", 5, x.author(x.offer(0)));
        Check.due("no parent of what is offered", -1, x.parent(0));
    }

    private static void beginTwelve() {
        Check.begin("promise 2, at most 12 levels");
        LedgeLevels x = new LedgeLevels();
        for (int level = 0; level < 12; level++) {
            Check.due("level", level, x.begin(level % 6));
        }
        Check.badState(x, "a thirteenth level", () -> x.begin(0));
        Check.outOfBounds(x, "a thirteenth level of no person", () -> x.begin(6));
    }

    private static void set() {
        Check.begin("promise 3, set");
        LedgeLevels x = new LedgeLevels();
        x.begin(0);
        x.begin(0);
        for (int kind = 0; kind <= 8; kind++) {
            Check.due("what was there", kind == 0 ? 0 : kind - 1, x.set(0, 0, kind));
            Check.due("what is there", kind, x.at(0, 0));
        }
        Check.due("the last cell", 1, x.set(0, 95, 8));
        Check.due("the last cell then", 8, x.at(0, 95));
        Check.due("a cell beside", 0, x.at(0, 1));
        Check.due("the other level's cell", 0, x.at(1, 0));
        Check.due("the other level's edits", 0, x.edits(1, true));
        int before = x.edits(0, true);
        Check.due("the same kind again", 8, x.set(0, 95, 8));
        Check.due("is remembered also", before + 1, x.edits(0, true));
    }

    private static void setRefuses() {
        Check.begin("promise 3, what set refuses");
        LedgeLevels x = new LedgeLevels();
        x.begin(0);
        x.set(0, 1, 2);
        x.set(0, 2, 2);
        x.set(0, 3, 2);
        x.set(0, 4, 1);
        x.undo(0);
        x.prove(0);
        Check.outOfBounds(x, "level 1", () -> x.set(1, 0, 0));
        Check.outOfBounds(x, "level -1", () -> x.set(-1, 0, 0));
        Check.outOfBounds(x, "cell 96", () -> x.set(0, 96, 0));
        Check.outOfBounds(x, "cell -1", () -> x.set(0, -1, 0));
        Check.outOfBounds(x, "cell 96 and kind 9", () -> x.set(0, 96, 9));
        Check.outOfBounds(x, "level 1 and kind 9", () -> x.set(1, 0, 9));
        Check.outOfBounds(x, "level 1 and a key", () -> x.set(1, 0, 2));
        Check.badArgument(x, "kind 9", () -> x.set(0, 0, 9));
        Check.badArgument(x, "kind -1", () -> x.set(0, 0, -1));
        Check.badState(x, "a fourth key", () -> x.set(0, 0, 2));
        Check.outOfBounds(x, "extreme cell", () -> x.set(0, Integer.MAX_VALUE, 0));
        Check.outOfBounds(x, "extreme level", () -> x.set(Integer.MIN_VALUE, 0, 0));
        Check.badArgument(x, "extreme kind", () -> x.set(0, 0, Integer.MAX_VALUE));
    }

    private static void setCountsKeys() {
        Check.begin("promise 3, keys");
        LedgeLevels x = new LedgeLevels();
        x.begin(0);
        x.begin(0);
        x.set(0, 10, 2);
        x.set(0, 20, 2);
        x.set(0, 30, 2);
        Check.due("a key on a key", 2, x.set(0, 20, 2));
        Check.due("another level's first key", 0, x.set(1, 40, 2));
        x.set(0, 20, 1);
        Check.due("a third key anew", 0, x.set(0, 40, 2));
        Check.badState(x, "a fourth key", () -> x.set(0, 20, 2));
        x.undo(0);
        x.undo(0);
        Check.due("the key is back", 2, x.at(0, 20));
        Check.badState(x, "a fourth key behind undone edits", () -> x.set(0, 40, 2));
        x.undo(0);
        x.undo(0);
        Check.due("a third key behind undone edits", 0, x.set(0, 40, 2));
        Check.badState(x, "then a fourth one", () -> x.set(0, 41, 2));
    }

    private static void setVoidsProof() {
        Check.begin("promise 3, set and the proof");
        LedgeLevels x = new LedgeLevels();
        x.begin(0);
        x.begin(0);
        x.prove(0);
        x.prove(1);
        x.set(0, 0, 0);
        Check.due("void, also if nothing becomes another", -2, x.proof(0));
        Check.due("the other one's stands", -1, x.proof(1));
    }

    private static void setStart() {
        Check.begin("promise 4, setStart");
        LedgeLevels x = new LedgeLevels();
        x.begin(0);
        x.set(0, 0, 1);
        x.undo(0);
        Check.due("the start before", 72, x.setStart(0, 95));
        Check.due("the start before", 95, x.setStart(0, 0));
        Check.due("the start", 0, x.start(0));
        Check.due("it is no edit", 0, x.edits(0, true));
        Check.due("undone edits stay", 1, x.edits(0, false));
        x.prove(0);
        Check.due("the same start", 0, x.setStart(0, 0));
        Check.due("makes the proof void", -2, x.proof(0));
        x.redo(0);
        x.undo(0);
        Check.due("undoing leaves the start", 0, x.start(0));
        x.prove(0);
        Check.outOfBounds(x, "level 1", () -> x.setStart(1, 0));
        Check.outOfBounds(x, "level -1", () -> x.setStart(-1, 0));
        Check.outOfBounds(x, "cell 96", () -> x.setStart(0, 96));
        Check.outOfBounds(x, "cell -1", () -> x.setStart(0, -1));
    }

    private static void undo() {
        Check.begin("promise 5, undo");
        LedgeLevels x = new LedgeLevels();
        x.begin(0);
        x.begin(0);
        Check.badState(x, "none is remembered", () -> x.undo(0));
        Check.outOfBounds(x, "level 2", () -> x.undo(2));
        Check.outOfBounds(x, "level -1", () -> x.undo(-1));
        x.set(0, 90, 4);
        x.prove(0);
        Check.due("its cell", 90, x.undo(0));
        Check.due("what was there is back", 1, x.at(0, 90));
        Check.due("the proof is void", -2, x.proof(0));
        Check.badState(x, "none is remembered any more", () -> x.undo(0));
        Check.badState(x, "another level's", () -> x.undo(1));
        x.set(0, 3, 0);
        x.prove(0);
        x.undo(0);
        Check.due("void, also if nothing becomes another", -2, x.proof(0));
    }

    private static void undoGoesInOrder() {
        Check.begin("promise 5, the order of undoing");
        LedgeLevels x = new LedgeLevels();
        x.begin(0);
        x.set(0, 7, 1);
        x.set(0, 8, 3);
        x.set(0, 7, 4);
        Check.due("the last", 7, x.undo(0));
        Check.due("its kind before", 1, x.at(0, 7));
        Check.due("the one before", 8, x.undo(0));
        Check.due("its kind before", 0, x.at(0, 8));
        Check.due("the first", 7, x.undo(0));
        Check.due("its kind before", 0, x.at(0, 7));
    }

    private static void redo() {
        Check.begin("promise 6, redo");
        LedgeLevels x = new LedgeLevels();
        x.begin(0);
        Check.badState(x, "none was undone", () -> x.redo(0));
        Check.outOfBounds(x, "level 1", () -> x.redo(1));
        Check.outOfBounds(x, "level -1", () -> x.redo(-1));
        x.set(0, 7, 1);
        x.set(0, 8, 3);
        x.set(0, 7, 2);
        Check.badState(x, "none was undone yet", () -> x.redo(0));
        x.undo(0);
        x.undo(0);
        x.undo(0);
        Check.due("the last undone", 7, x.redo(0));
        Check.due("its kind", 1, x.at(0, 7));
        Check.due("the next", 8, x.redo(0));
        Check.due("its kind", 3, x.at(0, 8));
        x.prove(0);
        Check.due("the next", 7, x.redo(0));
        Check.due("its kind", 2, x.at(0, 7));
        Check.due("the proof is void", -2, x.proof(0));
        Check.badState(x, "all were done again", () -> x.redo(0));
        x.set(0, 7, 2);
        x.undo(0);
        x.prove(0);
        x.redo(0);
        Check.due("void, also if nothing becomes another", -2, x.proof(0));
        x.undo(0);
        Check.due("undone once more", 2, x.at(0, 7));
        Check.due("and done again", 7, x.redo(0));
    }

    private static void editsForgetUndone() {
        Check.begin("promises 3 and 6, an edit and the undone ones");
        LedgeLevels x = new LedgeLevels();
        x.begin(0);
        x.set(0, 1, 1);
        x.set(0, 2, 1);
        x.set(0, 3, 1);
        x.undo(0);
        x.undo(0);
        x.set(0, 4, 4);
        Check.due("edits", 2, x.edits(0, true));
        Check.due("undone", 0, x.edits(0, false));
        Check.badState(x, "the undone are forgotten", () -> x.redo(0));
        Check.due("the edit", 4, x.undo(0));
        Check.due("the one that was not undone", 1, x.undo(0));
        Check.badState(x, "there are no more", () -> x.undo(0));
    }

    private static void fortyEdits() {
        Check.begin("promises 3, 5, 6 and 17, at most 40 edits");
        LedgeLevels x = new LedgeLevels();
        x.begin(0);
        for (int edit = 0; edit < 43; edit++) {
            x.set(0, edit, kindOf(edit));
            Check.due("edits", Math.min(edit + 1, 40), x.edits(0, true));
        }
        for (int edit = 42; edit >= 3; edit--) {
            Check.due("undone", edit, x.undo(0));
            Check.due("is air again", 0, x.at(0, edit));
        }
        Check.due("no edits", 0, x.edits(0, true));
        Check.due("forty undone", 40, x.edits(0, false));
        Check.badState(x, "the earliest three are forgotten", () -> x.undo(0));
        Check.due("and stand", kindOf(2), x.at(0, 2));
        for (int edit = 3; edit < 43; edit++) {
            Check.due("done again", edit, x.redo(0));
            Check.due("is there again", kindOf(edit), x.at(0, edit));
        }
        Check.due("forty edits", 40, x.edits(0, true));
        Check.badState(x, "no more undone", () -> x.redo(0));
    }

    private static int kindOf(int edit) {
        return 3 + edit % 6;
    }

    private static void fortyEditsOfOneCell() {
        Check.begin("promises 3 and 5, at most 40 edits of one cell");
        LedgeLevels x = new LedgeLevels();
        x.begin(0);
        for (int edit = 0; edit < 42; edit++) {
            x.set(0, 50, kindOf(edit));
        }
        x.undo(0);
        x.set(0, 60, 4);
        Check.due("forty still, none forgotten", 40, x.edits(0, true));
        x.set(0, 61, 4);
        x.undo(0);
        x.undo(0);
        for (int edit = 40; edit >= 3; edit--) {
            Check.due("undone", 50, x.undo(0));
            Check.due("what was there before", kindOf(edit - 1), x.at(0, 50));
        }
        Check.badState(x, "the earliest three are forgotten", () -> x.undo(0));
    }

    private static void levels() {
        Check.begin("promise 14, levels");
        LedgeLevels x = new LedgeLevels();
        Check.due("none", 0, x.levels());
        x.begin(0);
        x.begin(3);
        Check.due("two", 2, x.levels());
        x.set(0, 72, 5);
        x.prove(0);
        x.offer(0);
        Check.due("an offer begins none", 2, x.levels());
        x.copy(0, 1);
        Check.due("a copy begins one", 3, x.levels());
    }

    private static void at() {
        Check.begin("promise 15, at");
        LedgeLevels x = new LedgeLevels();
        x.begin(0);
        Check.due("air", 0, x.at(0, 83));
        Check.due("wall", 1, x.at(0, 84));
        Check.due("the last cell", 1, x.at(0, 95));
        x.set(0, 83, 7);
        Check.due("a spring", 7, x.at(0, 83));
        Check.outOfBounds(x, "level 1", () -> x.at(1, 0));
        Check.outOfBounds(x, "level -1", () -> x.at(-1, 0));
        Check.outOfBounds(x, "level 12", () -> x.at(12, 0));
        Check.outOfBounds(x, "cell 96", () -> x.at(0, 96));
        Check.outOfBounds(x, "cell -1", () -> x.at(0, -1));
        Check.outOfBounds(x, "cell -2147483648", () -> x.at(0, Integer.MIN_VALUE));
    }

    private static void start() {
        Check.begin("promise 16, start");
        LedgeLevels x = new LedgeLevels();
        x.begin(0);
        x.begin(0);
        x.setStart(1, 5);
        Check.due("at first", 72, x.start(0));
        Check.due("as set", 5, x.start(1));
        Check.outOfBounds(x, "level 2", () -> x.start(2));
        Check.outOfBounds(x, "level -1", () -> x.start(-1));
        Check.outOfBounds(x, "level 2147483647", () -> x.start(Integer.MAX_VALUE));
    }

    private static void edits() {
        Check.begin("promise 17, edits");
        LedgeLevels x = new LedgeLevels();
        x.begin(0);
        x.set(0, 1, 1);
        x.set(0, 2, 1);
        x.set(0, 3, 1);
        x.undo(0);
        Check.due("can be undone", 2, x.edits(0, true));
        Check.due("can be done again", 1, x.edits(0, false));
        x.redo(0);
        Check.due("can be undone", 3, x.edits(0, true));
        Check.due("can be done again", 0, x.edits(0, false));
        Check.outOfBounds(x, "level 1", () -> x.edits(1, true));
        Check.outOfBounds(x, "level -1", () -> x.edits(-1, false));
    }
}
