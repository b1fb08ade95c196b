/** The edges in the promises 9 to 11 and 23 to 29. */
final class EdgesOfWorks {
    private EdgesOfWorks() {
    }

    static void all() {
        offer();
        noProofWithAShortestRun();
        twentyWereOffered();
        copy();
        copyOfWithdrawn();
        copyByTwelve();
        star();
        starOfWithdrawn();
        starByTheAuthor();
        works();
        author();
        best();
        bestOfWithdrawn();
        parent();
        noParent();
        line();
        stars();
        credit();
        creditByTheOwn();
    }

    private static LedgeLevels withLevel(int author, int goal) {
        LedgeLevels x = new LedgeLevels();
        x.begin(author);
        x.set(0, goal, 5);
        x.prove(0);
        return x;
    }

    private static LedgeLevels withWork(int author) {
        LedgeLevels x = withLevel(author, 74);
        x.offer(0);
        return x;
    }

    private static LedgeLevels withTower(int author) {
        LedgeLevels x = new LedgeLevels();
        Draw.work(x, author, Draw.TOWER);
        return x;
    }

    private static int offerCopy(LedgeLevels x, int work, int person) {
        int level = x.copy(work, person);
        x.prove(level);
        return x.offer(level);
    }

    private static void offer() {
        Edge.promise(9, "Offers a level.");
        LedgeLevels x = withLevel(5, 74);
        x.begin(1);
        x.set(1, 73, 5);
        x.prove(1);
        x.offer(1);
        Check.due("this one's author", 1, x.author(0));
        Check.due("this one's steps", 1, x.best(0));
        Check.due("its proof stays", 1, x.proof(1));
        Check.due("its edits stay", 1, x.edits(1, true));
        Edge.promise(9, "Returns the work.");
        for (int work = 1; work < 20; work++) {
            Check.due("the work", work, x.offer(work % 2));
        }
    }

    private static void noProofWithAShortestRun() {
        Edge.promise(9, "if it has no proof with a shortest run");
        LedgeLevels x = withLevel(0, 72);
        Check.due("a shortest run of no steps", 0, x.offer(0));
        x.setStart(0, 72);
        Check.badState(x, "a void proof", () -> x.offer(0));
        x.setStart(0, 90);
        x.set(0, 72, 0);
        x.prove(0);
        Check.badState(x, "a refuted level", () -> x.offer(0));
        x.copy(0, 1);
        Check.badState(x, "a copy that is not proven", () -> x.offer(1));
        Check.due("works", 1, x.works());
    }

    private static void twentyWereOffered() {
        Edge.promise(9, "or 20 were offered");
        LedgeLevels x = withTower(0);
        for (int work = 1; work < 19; work++) {
            x.offer(0);
        }
        Check.due("the twentieth", 19, x.offer(0));
        Check.badState(x, "the next", () -> x.offer(0));
        x.setSpring(1, 1);
        x.setSpring(1, 3);
        x.prove(0);
        Check.badState(x, "the next, some having been withdrawn", () -> x.offer(0));
        Check.outOfBounds(x, "the next, of no level", () -> x.offer(1));
        Check.due("works", 20, x.works());
    }

    private static void copy() {
        Edge.promise(10, "A person copies a work.");
        LedgeLevels x = withWork(0);
        x.begin(0);
        x.set(1, 0, 8);
        x.set(1, 95, 4);
        x.set(1, 11, 5);
        x.setStart(1, 10);
        x.prove(1);
        x.offer(1);
        int level = x.copy(1, 0);
        Check.due("the author may copy too", 2, level);
        Check.due("the first cell", 8, x.at(level, 0));
        Check.due("the last cell", 4, x.at(level, 95));
        Check.due("the start", 10, x.start(level));
        Check.due("the proof", -2, x.proof(level));
        x.set(level, 0, 0);
        Check.due("the first level stays", 8, x.at(1, 0));
        Check.due("nobody else's level", 0, x.at(0, 0));
        Edge.promise(10, "Returns the level.");
        for (int next = 3; next < 12; next++) {
            Check.due("the level", next, x.copy(next % 2, next % 6));
        }
    }

    private static void copyOfWithdrawn() {
        Edge.promise(10, "if it is withdrawn");
        LedgeLevels x = withTower(0);
        x.setSpring(1, 2);
        Check.badState(x, "withdrawn", () -> x.copy(0, 1));
        Check.outOfBounds(x, "withdrawn, no person", () -> x.copy(0, 6));
        Check.due("levels", 1, x.levels());
        x.setSpring(1, 3);
        Check.due("back", 1, x.copy(0, 1));
    }

    private static void copyByTwelve() {
        Edge.promise(10, "or 12 levels were begun");
        LedgeLevels x = withWork(0);
        for (int level = 1; level < 11; level++) {
            x.begin(0);
        }
        Check.due("the twelfth", 11, x.copy(0, 1));
        Check.badState(x, "the next", () -> x.copy(0, 1));
        Check.outOfBounds(x, "the next, of no work", () -> x.copy(1, 1));
        Check.outOfBounds(x, "the next, by nobody", () -> x.copy(0, -1));
        Check.due("levels", 12, x.levels());
    }

    private static void star() {
        Edge.promise(11, "A person gives a work stars.");
        LedgeLevels x = withWork(0);
        x.offer(0);
        x.star(1, 5, 3);
        Check.due("this one", 3, x.stars(1));
        Check.due("no other", 0, x.stars(0));
        Edge.promise(11, "stars: 1 to 5");
        x.star(1, 5, 1);
        Check.due("the least", 1, x.stars(1));
        x.star(1, 5, 5);
        Check.due("the most", 5, x.stars(1));
        Check.badArgument(x, "0", () -> x.star(1, 5, 0));
        Check.badArgument(x, "6", () -> x.star(1, 5, 6));
        Edge.promise(11, "Returns the stars that the person gave it before");
        Check.due("not those that are refused", 5, x.star(1, 5, 2));
        Check.due("those given last", 2, x.star(1, 5, 2));
        Edge.promise(11, "0 for none.");
        Check.due("another person", 0, x.star(1, 1, 1));
        Check.due("another work", 0, x.star(0, 5, 1));
    }

    private static void starOfWithdrawn() {
        Edge.promise(11, "if it is withdrawn");
        LedgeLevels x = withTower(0);
        x.setSpring(1, 1);
        Check.badState(x, "by anyone", () -> x.star(0, 1, 5));
        Check.badState(x, "by its author", () -> x.star(0, 0, 5));
        Check.badArgument(x, "with six stars", () -> x.star(0, 1, 6));
        x.setSpring(1, 4);
        Check.due("back", 0, x.star(0, 1, 5));
    }

    private static void starByTheAuthor() {
        Edge.promise(11, "or the person is its author");
        for (int author = 0; author < 6; author++) {
            LedgeLevels x = withWork(author);
            offerCopy(x, 0, (author + 1) % 6);
            for (int person = 0; person < 6; person++) {
                int by = person;
                for (int work = 0; work < 2; work++) {
                    int starred = work;
                    if (x.author(work) == person) {
                        Check.badState(x, "by its author", () -> x.star(starred, by, 1));
                    } else {
                        Check.due("by another", 0, x.star(work, person, 1));
                    }
                }
            }
            Check.due("all but the author", 5, x.stars(0));
            Check.due("all but the copier", 5, x.stars(1));
        }
    }

    private static void works() {
        Edge.promise(23, "Returns how many works were offered.");
        LedgeLevels x = withLevel(0, 74);
        for (int work = 0; work < 20; work++) {
            Check.due("so many", work, x.works());
            x.offer(0);
        }
        Check.badState(x, "one more", () -> x.offer(0));
        Check.due("twenty", 20, x.works());
    }

    private static void author() {
        Edge.promise(24, "Returns the author of a work.");
        LedgeLevels x = new LedgeLevels();
        for (int person = 0; person < 6; person++) {
            int level = x.begin(person);
            x.set(level, 74, 5);
            x.prove(level);
            x.offer(level);
            x.offer(level);
        }
        for (int work = 0; work < 12; work++) {
            Check.due("the author", work / 2, x.author(work));
        }
    }

    private static void best() {
        Edge.promise(25, "Returns the number of steps of the shortest run of a work.");
        LedgeLevels x = withWork(0);
        x.set(0, 73, 5);
        x.prove(0);
        x.offer(0);
        x.set(0, 72, 5);
        x.prove(0);
        x.offer(0);
        Edge.promise(25, "Returns the number;");
        Check.due("two", 2, x.best(0));
        Check.due("one", 1, x.best(1));
        Check.due("none", 0, x.best(2));
    }

    private static void bestOfWithdrawn() {
        Edge.promise(25, "-1 if it is withdrawn.");
        LedgeLevels x = withTower(0);
        int[] due = {-1, -1, 14, 13};
        for (int strength = 1; strength <= 4; strength++) {
            x.setSpring(1, strength);
            Check.due("with the strength " + strength, due[strength - 1], x.best(0));
        }
    }

    private static void parent() {
        Edge.promise(26, "Returns the parent of a work.");
        LedgeLevels x = withTower(0);
        offerCopy(x, 0, 0);
        x.setSpring(1, 1);
        Check.due("one's own, and withdrawn", 0, x.parent(1));
        x.setSpring(1, 3);
        Edge.promise(26, "Returns the work;");
        Check.due("the last work", 2, offerCopy(x, 1, 3));
        Check.due("the one before", 1, x.parent(2));
        Check.due("a copy of a copy", 2, x.parent(offerCopy(x, 2, 4)));
    }

    private static void noParent() {
        Edge.promise(26, "-1 for none.");
        LedgeLevels x = withWork(0);
        offerCopy(x, 0, 0);
        x.begin(0);
        x.set(2, 74, 5);
        x.prove(2);
        Check.due("none", -1, x.parent(0));
        Check.due("a like level that is no copy", -1, x.parent(x.offer(2)));
    }

    private static void line() {
        Edge.promise(27, "Returns how many works have a work in their line, itself included.");
        LedgeLevels x = withWork(0);
        Check.due("itself alone", 1, x.line(0));
        for (int work = 1; work < 19; work++) {
            x.offer(0);
        }
        x.copy(0, 1);
        Check.due("a copy that is not offered", 1, x.line(0));
        x.prove(1);
        Check.due("the last work", 19, x.offer(1));
        Check.due("its parent", 2, x.line(0));
        Check.due("itself", 1, x.line(19));
        Check.due("a work like its parent", 1, x.line(18));
    }

    private static void stars() {
        Edge.promise(28, "Returns the sum of the stars of a work.");
        LedgeLevels x = withTower(0);
        Check.due("none", 0, x.stars(0));
        for (int person = 1; person < 6; person++) {
            x.star(0, person, 5);
            Check.due("those of " + person, 5 * person, x.stars(0));
        }
        x.setSpring(1, 1);
        Check.due("withdrawn", 25, x.stars(0));
    }

    private static void credit() {
        Edge.promise(29, "Returns the credit of a person.");
        LedgeLevels x = withTower(5);
        Check.due("no stars", 0, x.credit(5));
        for (int person = 0; person < 5; person++) {
            x.star(0, person, 5);
            Check.due("who gives", 0, x.credit(person));
        }
        Check.due("all", 25, x.credit(5));
        x.setSpring(1, 1);
        Check.due("also for a withdrawn work", 25, x.credit(5));
        x.setSpring(1, 4);
        x.prove(0);
        x.offer(0);
        x.star(1, 0, 2);
        Check.due("of two works", 27, x.credit(5));
    }

    private static void creditByTheOwn() {
        Edge.promise(29, "credit of a person");
        LedgeLevels x = withWork(0);
        offerCopy(x, 0, 1);
        x.star(1, 0, 5);
        Check.due("by own stars for a copy", 5, x.credit(0));
        Check.due("and its author's", 5, x.credit(1));
        offerCopy(x, 1, 0);
        x.star(2, 1, 3);
        Check.due("twice in a line", 8, x.credit(0));
        Check.due("once between", 8, x.credit(1));
    }
}
