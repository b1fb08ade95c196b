/** Promises 9 to 11 and 23 to 29, and what setSpring does to works. */
final class ExchangeTests {
    private ExchangeTests() {
    }

    static void all() {
        offer();
        offerNeedsAProof();
        offerTwenty();
        copy();
        copyRefuses();
        copiesHaveTheirParent();
        star();
        starRefuses();
        works();
        author();
        best();
        bestBySprings();
        bestOfOtherSprings();
        bestByEachKind();
        parentAndLine();
        stars();
        credit();
        creditOfWithdrawnWorks();
    }

    private static LedgeLevels withWork(int author) {
        LedgeLevels x = new LedgeLevels();
        x.begin(author);
        x.set(0, 74, 5);
        x.prove(0);
        x.offer(0);
        return x;
    }

    private static int offerCopy(LedgeLevels x, int work, int person) {
        int level = x.copy(work, person);
        x.prove(level);
        return x.offer(level);
    }

    private static void offer() {
        Check.begin("promise 9, offer");
        LedgeLevels x = withWork(4);
        Check.due("author", 4, x.author(0));
        Check.due("best", 2, x.best(0));
        Check.due("parent", -1, x.parent(0));
        Check.due("record", -1, x.record(0));
        Check.due("stars", 0, x.stars(0));
        Check.due("line", 1, x.line(0));
        Check.due("once more", 1, x.offer(0));
        x.begin(2);
        x.set(1, 72, 5);
        x.prove(1);
        Check.due("another level", 2, x.offer(1));
        Check.due("its author", 2, x.author(2));
        Check.due("its best", 0, x.best(2));
    }

    private static void offerNeedsAProof() {
        Check.begin("promise 9, what offer refuses");
        LedgeLevels x = new LedgeLevels();
        Check.outOfBounds(x, "level 0", () -> x.offer(0));
        x.begin(0);
        Check.badState(x, "a void proof", () -> x.offer(0));
        x.prove(0);
        Check.badState(x, "a refuted level", () -> x.offer(0));
        x.set(0, 75, 5);
        x.set(0, 0, 6);
        Check.badState(x, "an edited level", () -> x.offer(0));
        x.prove(0);
        x.offer(0);
        x.setStart(0, 72);
        Check.badState(x, "its start is set", () -> x.offer(0));
        x.prove(0);
        x.undo(0);
        Check.badState(x, "undone", () -> x.offer(0));
        x.prove(0);
        x.redo(0);
        Check.badState(x, "done again", () -> x.offer(0));
        x.prove(0);
        x.setSpring(0, 1);
        Check.badState(x, "another spring", () -> x.offer(0));
        Check.outOfBounds(x, "level 1", () -> x.offer(1));
        Check.outOfBounds(x, "level -1", () -> x.offer(-1));
    }

    private static void offerTwenty() {
        Check.begin("promise 9, at most 20 works");
        LedgeLevels x = withWork(0);
        for (int work = 1; work < 20; work++) {
            Check.due("work", work, x.offer(0));
        }
        Check.badState(x, "the twenty-first", () -> x.offer(0));
        Check.outOfBounds(x, "the twenty-first, of no level", () -> x.offer(1));
        Check.due("works", 20, x.works());
        Check.due("the last one", 2, x.best(19));
    }

    private static void copy() {
        Check.begin("promise 10, copy");
        LedgeLevels x = new LedgeLevels();
        x.begin(0);
        x.set(0, 50, 2);
        x.set(0, 51, 3);
        x.set(0, 52, 8);
        x.set(0, 53, 2);
        x.set(0, 54, 2);
        x.set(0, 76, 5);
        x.setStart(0, 74);
        x.prove(0);
        x.offer(0);
        String grid = Seen.grid(x, 0);
        x.set(0, 0, 4);
        x.setStart(0, 1);
        Check.due("the level", 1, x.copy(0, 3));
        Check.due("its grid is the work's", grid, Seen.grid(x, 1));
        Check.due("its start is the work's", 74, x.start(1));
        Check.due("its proof is void", -2, x.proof(1));
        Check.due("it has no edits", 0, x.edits(1, true));
        Check.due("nor undone ones", 0, x.edits(1, false));
        Check.badState(x, "a fourth key", () -> x.set(1, 0, 2));
        x.set(1, 50, 1);
        Check.due("a work is not changed by its copy's edits", 2, x.copy(0, 0));
        Check.due("its grid", grid, Seen.grid(x, 2));
        x.prove(1);
        Check.due("the copy's author is the person", 3, x.author(x.offer(1)));
    }

    private static void copyRefuses() {
        Check.begin("promise 10, what copy refuses");
        LedgeLevels x = new LedgeLevels();
        Check.outOfBounds(x, "a work of none", () -> x.copy(0, 0));
        Draw.work(x, 0, Draw.TOWER);
        Check.outOfBounds(x, "work 1", () -> x.copy(1, 0));
        Check.outOfBounds(x, "work -1", () -> x.copy(-1, 0));
        Check.outOfBounds(x, "person 6", () -> x.copy(0, 6));
        Check.outOfBounds(x, "person -1", () -> x.copy(0, -1));
        x.setSpring(1, 1);
        Check.badState(x, "a withdrawn work", () -> x.copy(0, 0));
        Check.outOfBounds(x, "a withdrawn work, person 6", () -> x.copy(0, 6));
        x.setSpring(1, 3);
        for (int level = 1; level < 12; level++) {
            Check.due("level", level, x.copy(0, 0));
        }
        Check.badState(x, "a thirteenth level", () -> x.copy(0, 0));
        Check.outOfBounds(x, "a thirteenth level, person 6", () -> x.copy(0, 6));
        Check.badState(x, "a thirteenth level, begun", () -> x.begin(0));
    }

    private static void copiesHaveTheirParent() {
        Check.begin("promises 10 and 26, what is offered from a copy");
        LedgeLevels x = withWork(0);
        int level = x.copy(0, 0);
        x.set(level, 74, 0);
        x.set(level, 73, 5);
        x.prove(level);
        Check.due("the parent of an edited copy", 0, x.parent(x.offer(level)));
        Check.due("and of another offer of it", 0, x.parent(x.offer(level)));
        Check.due("a level from before has none", -1, x.parent(x.offer(0)));
    }

    private static void star() {
        Check.begin("promise 11, star");
        LedgeLevels x = withWork(0);
        x.offer(0);
        Check.due("none before", 0, x.star(0, 1, 5));
        Check.due("five before", 5, x.star(0, 1, 1));
        Check.due("one before", 1, x.star(0, 1, 1));
        Check.due("another person's", 0, x.star(0, 5, 4));
        Check.due("another work's", 0, x.star(1, 1, 2));
        Check.due("the sum", 5, x.stars(0));
        Check.due("the other work's sum", 2, x.stars(1));
    }

    private static void starRefuses() {
        Check.begin("promise 11, what star refuses");
        LedgeLevels x = new LedgeLevels();
        Check.outOfBounds(x, "a work of none", () -> x.star(0, 0, 1));
        Draw.work(x, 2, Draw.TOWER);
        x.star(0, 1, 3);
        Check.outOfBounds(x, "work 1", () -> x.star(1, 0, 1));
        Check.outOfBounds(x, "work -1", () -> x.star(-1, 0, 1));
        Check.outOfBounds(x, "person 6", () -> x.star(0, 6, 1));
        Check.outOfBounds(x, "person -1", () -> x.star(0, -1, 1));
        Check.outOfBounds(x, "person 6, 6 stars", () -> x.star(0, 6, 6));
        Check.badArgument(x, "6 stars", () -> x.star(0, 1, 6));
        Check.badArgument(x, "0 stars", () -> x.star(0, 1, 0));
        Check.badArgument(x, "6 stars of the author", () -> x.star(0, 2, 6));
        Check.badState(x, "the author", () -> x.star(0, 2, 1));
        x.setSpring(1, 2);
        Check.badState(x, "a withdrawn work", () -> x.star(0, 1, 1));
        Check.badArgument(x, "a withdrawn work, 0 stars", () -> x.star(0, 1, 0));
        x.setSpring(1, 3);
        Check.due("it came back with its stars", 3, x.star(0, 1, 1));
        offerCopy(x, 0, 1);
        Check.due("the parent's author", 0, x.star(1, 2, 1));
        Check.badState(x, "the copy's author", () -> x.star(1, 1, 1));
    }

    private static void works() {
        Check.begin("promise 23, works");
        LedgeLevels x = new LedgeLevels();
        Check.due("none", 0, x.works());
        Draw.work(x, 2, Draw.TOWER);
        Check.due("one", 1, x.works());
        x.copy(0, 1);
        Check.due("a copy is none", 1, x.works());
        x.setSpring(1, 1);
        Check.due("a withdrawn one is one", 1, x.works());
    }

    private static void author() {
        Check.begin("promise 24, author");
        LedgeLevels x = withWork(5);
        offerCopy(x, 0, 1);
        Check.due("who began the level", 5, x.author(0));
        Check.due("who copied", 1, x.author(1));
        Check.outOfBounds(x, "work 2", () -> x.author(2));
        Check.outOfBounds(x, "work -1", () -> x.author(-1));
        Check.outOfBounds(x, "work 20", () -> x.author(20));
    }

    private static void best() {
        Check.begin("promise 25, best");
        LedgeLevels x = withWork(0);
        Check.due("of the proof", 2, x.best(0));
        x.set(0, 73, 5);
        x.prove(0);
        Check.due("the level's later proof is none of it", 2, x.best(0));
        Check.outOfBounds(x, "work 1", () -> x.best(1));
        Check.outOfBounds(x, "work -1", () -> x.best(-1));
        Check.outOfBounds(x, "work 2147483647", () -> x.best(Integer.MAX_VALUE));
    }

    private static void bestBySprings() {
        Check.begin("promises 7 and 25, works whose springs change");
        LedgeLevels x = new LedgeLevels();
        Draw.work(x, 0, Draw.TOWER);
        Check.due("strength 3", 14, x.best(0));
        Check.due("strength 4", 1, x.setSpring(1, 4));
        Check.due("is searched again at once", 13, x.best(0));
        x.setSpring(1, 2);
        Check.due("withdrawn", -1, x.best(0));
        Check.due("no proof of a level is void", 0, x.setSpring(1, 1));
        Check.due("withdrawn still", -1, x.best(0));
        x.setSpring(1, 3);
        Check.due("back", 14, x.best(0));
    }

    private static void bestOfOtherSprings() {
        Check.begin("promises 7 and 25, works with several kinds of springs");
        LedgeLevels x = new LedgeLevels();
        int level = Draw.level(x, 0, Draw.TOWER);
        x.prove(level);
        x.offer(level);
        x.set(level, 85, 6);
        Check.due("another kind, too weak", -1, x.prove(level));
        x.setSpring(0, 4);
        x.prove(level);
        x.offer(level);
        x.setSpring(0, 3);
        Check.due("the one without it", 14, x.best(0));
        Check.due("the one with it", 14, x.best(1));
        x.setSpring(0, 1);
        Check.due("the one without it", 14, x.best(0));
        Check.due("the one with it is withdrawn", -1, x.best(1));
        x.setSpring(1, 1);
        Check.due("both are withdrawn", -1, x.best(0));
        x.setSpring(0, 4);
        Check.due("the first one still", -1, x.best(0));
        Check.due("the second one is back", 13, x.best(1));
    }

    private static void bestByEachKind() {
        Check.begin("promises 7 and 25, works with each kind of springs");
        LedgeLevels x = new LedgeLevels();
        int level = Draw.level(x, 0, Draw.TOWER);
        for (int spring = 0; spring < 3; spring++) {
            x.setSpring(spring, 4);
            x.set(level, 85, 6 + spring);
            x.prove(level);
            Check.due("the work", spring, x.offer(level));
        }
        for (int spring = 0; spring < 3; spring++) {
            x.setSpring(spring, 3);
            for (int work = 0; work < 3; work++) {
                Check.due("work " + work + " by spring " + spring, work <= spring ? 14 : 13, x.best(work));
            }
        }
    }

    private static void parentAndLine() {
        Check.begin("promises 26 and 27, parent and line");
        LedgeLevels x = withWork(0);
        offerCopy(x, 0, 1);
        offerCopy(x, 1, 2);
        offerCopy(x, 0, 3);
        x.offer(0);
        offerCopy(x, 2, 0);
        int[] parents = {-1, 0, 1, 0, -1, 2};
        int[] lines = {5, 3, 2, 1, 1, 1};
        for (int work = 0; work < 6; work++) {
            Check.due("parent of " + work, parents[work], x.parent(work));
            Check.due("line of " + work, lines[work], x.line(work));
        }
        Check.outOfBounds(x, "parent of 6", () -> x.parent(6));
        Check.outOfBounds(x, "parent of -1", () -> x.parent(-1));
        Check.outOfBounds(x, "line of 6", () -> x.line(6));
        Check.outOfBounds(x, "line of -1", () -> x.line(-1));
    }

    private static void stars() {
        Check.begin("promise 28, stars");
        LedgeLevels x = withWork(0);
        for (int person = 1; person < 6; person++) {
            x.star(0, person, person);
        }
        Check.due("the sum", 15, x.stars(0));
        x.star(0, 5, 1);
        Check.due("in place of those before", 11, x.stars(0));
        offerCopy(x, 0, 1);
        Check.due("a copy has none", 0, x.stars(1));
        Check.outOfBounds(x, "work 2", () -> x.stars(2));
        Check.outOfBounds(x, "work -1", () -> x.stars(-1));
    }

    private static void credit() {
        Check.begin("promise 29, credit");
        LedgeLevels x = withWork(0);
        offerCopy(x, 0, 1);
        offerCopy(x, 1, 0);
        offerCopy(x, 1, 2);
        x.offer(0);
        x.star(0, 5, 1);
        x.star(1, 5, 2);
        x.star(2, 5, 3);
        x.star(3, 5, 4);
        x.star(4, 5, 5);
        x.star(3, 4, 1);
        Check.due("person 0, each work once", 16, x.credit(0));
        Check.due("person 1, own and what comes from it", 10, x.credit(1));
        Check.due("person 2", 5, x.credit(2));
        Check.due("person 3", 0, x.credit(3));
        Check.due("who gives has none by that", 0, x.credit(5));
        x.star(2, 5, 1);
        Check.due("fewer stars", 14, x.credit(0));
        Check.outOfBounds(x, "person 6", () -> x.credit(6));
        Check.outOfBounds(x, "person -1", () -> x.credit(-1));
    }

    private static void creditOfWithdrawnWorks() {
        Check.begin("promises 28 and 29, stars of withdrawn works");
        LedgeLevels x = new LedgeLevels();
        Draw.work(x, 0, Draw.TOWER);
        x.star(0, 1, 4);
        x.setSpring(1, 1);
        Check.due("they stay", 4, x.stars(0));
        Check.due("and count", 4, x.credit(0));
    }
}
