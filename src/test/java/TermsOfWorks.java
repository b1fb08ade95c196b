/** The edges in the section "Terms": proofs, the exchange, and works whose springs change. */
final class TermsOfWorks {
    private TermsOfWorks() {
    }

    static void all() {
        searchAndRows();
        allThatABodyCanDo();
        proofsAreForThingsAsTheyAre();
        voidAtFirst();
        voidByEdits();
        voidByStart();
        voidThoughNothingBecomesAnother();
        voidBySprings();
        notVoid();
        numbersOfWorks();
        twentyWorks();
        whatCanBeOffered();
        workHasThingsAsTheyAre();
        copyBeginsALevel();
        worksOfACopy();
        parentOrNone();
        longestLine();
        searchedAgain();
        searchedAgainByEachKind();
        withdrawn();
        tillItCanBeWonAgain();
        withdrawnByAnotherKind();
        notCopiedStarredOrRun();
        oneToFiveStars();
        inPlaceOfThoseBefore();
        creditOfLines();
        eachWorkOnce();
    }

    private static LedgeLevels withGoal(int author, int goal) {
        LedgeLevels x = new LedgeLevels();
        x.begin(author);
        x.set(0, goal, 5);
        return x;
    }

    private static LedgeLevels withWork(int author) {
        LedgeLevels x = withGoal(author, 74);
        x.prove(0);
        x.offer(0);
        return x;
    }

    private static int offerCopy(LedgeLevels x, int work, int person) {
        int level = x.copy(work, person);
        x.prove(level);
        return x.offer(level);
    }

    /** Each goal that a body can come to in the first level, by the search and by all rows of inputs. */
    private static void searchAndRows() {
        Edge.terms("The shortest run is found by that search, and once more by all rows of inputs.");
        int[] found = new int[7];
        for (int goal = 0; goal < 96; goal++) {
            LedgeLevels x = withGoal(0, goal);
            int proven = x.prove(0);
            int due = proven <= 5 ? proven : -1;
            Check.due("all rows, the goal " + goal, due, x.shortest(0, 5));
            for (int most = 0; most < 5; most++) {
                int few = proven <= most ? proven : -1;
                Check.due("rows of " + most + ", the goal " + goal, few, x.shortest(0, most));
            }
            found[Math.min(proven + 1, 6)]++;
        }
        for (int steps = 0; steps < 7; steps++) {
            Check.holds("no goal with " + (steps - 1) + " steps", found[steps] > 0);
        }
    }

    private static void allThatABodyCanDo() {
        Edge.terms("it is proven with the number of steps of the shortest run that wins, or it is refuted.");
        LedgeLevels x = withGoal(0, 72);
        Check.due("the start", 0, x.prove(0));
        x.set(0, 72, 0);
        x.set(0, 48, 5);
        Check.due("one jump", 1, x.prove(0));
        x.set(0, 48, 0);
        x.set(0, 83, 5);
        Check.due("all along the floor", 11, x.prove(0));
        x.set(0, 82, 4);
        x.set(0, 70, 4);
        x.set(0, 58, 4);
        x.set(0, 46, 4);
        Check.due("spikes up to where a body comes", -1, x.prove(0));
        x.set(0, 46, 0);
        Check.holds("a gap over them", x.prove(0) > 11);
    }

    private static void proofsAreForThingsAsTheyAre() {
        Edge.terms("A proof is for the grid and the springs as they are");
        LedgeLevels x = new LedgeLevels();
        Draw.level(x, 0, Draw.TOWER);
        int[] due = {-1, -1, 14, 13};
        for (int strength = 1; strength <= 4; strength++) {
            x.setSpring(1, strength);
            Check.due("with the strength " + strength, due[strength - 1], x.prove(0));
            Check.due("kept", due[strength - 1], x.proof(0));
        }
        x.set(0, 83, 0);
        Check.due("without the goal", -1, x.prove(0));
        x.undo(0);
        Check.due("with it", 13, x.prove(0));
    }

    private static void voidAtFirst() {
        Edge.terms("it is void, as at first");
        LedgeLevels x = withWork(0);
        x.begin(1);
        x.copy(0, 2);
        Check.due("a begun level", -2, x.proof(1));
        Check.due("a copy", -2, x.proof(2));
        Check.badState(x, "so it cannot be offered", () -> x.offer(1));
        Check.badState(x, "so it cannot be offered", () -> x.offer(2));
    }

    /** Proven, with an edit to undo and one to do again. */
    private static LedgeLevels proven(int goal) {
        LedgeLevels x = withGoal(0, goal);
        x.set(0, 3, 1);
        x.set(0, 4, 1);
        x.undo(0);
        x.prove(0);
        return x;
    }

    private static void voidByEdits() {
        Edge.terms("when the level is edited, undone or done again");
        int[] goals = {74, 0};
        for (int goal : goals) {
            LedgeLevels x = proven(goal);
            x.set(0, 5, 1);
            Check.due("edited", -2, x.proof(0));
            x = proven(goal);
            x.undo(0);
            Check.due("undone", -2, x.proof(0));
            x = proven(goal);
            x.redo(0);
            Check.due("done again", -2, x.proof(0));
        }
    }

    private static void voidByStart() {
        Edge.terms("when its start is set");
        int[] goals = {74, 0};
        for (int goal : goals) {
            LedgeLevels x = proven(goal);
            x.setStart(0, 73);
            Check.due("another start", -2, x.proof(0));
        }
    }

    private static void voidThoughNothingBecomesAnother() {
        Edge.terms("each of these also if nothing becomes another by it");
        int[] goals = {74, 0};
        for (int goal : goals) {
            LedgeLevels x = withGoal(0, goal);
            x.prove(0);
            x.set(0, 95, 1);
            Check.due("an edit", -2, x.proof(0));
            x.prove(0);
            x.undo(0);
            Check.due("undoing it", -2, x.proof(0));
            x.prove(0);
            x.redo(0);
            Check.due("doing it again", -2, x.proof(0));
            x.prove(0);
            x.setStart(0, 72);
            Check.due("the same start", -2, x.proof(0));
        }
    }

    private static void voidBySprings() {
        Edge.terms("or when the strength of a spring kind that is in its grid becomes another one.");
        int[] goals = {74, 20};
        for (int spring = 0; spring < 3; spring++) {
            for (int goal : goals) {
                LedgeLevels x = withGoal(0, goal);
                x.set(0, 0, 6 + spring);
                int steps = x.prove(0);
                int strength = x.strength(spring);
                x.setSpring(spring, strength);
                Check.due("the same strength", steps, x.proof(0));
                x.setSpring((spring + 1) % 3, 1);
                x.setSpring((spring + 2) % 3, 1);
                Check.due("other kinds", steps, x.proof(0));
                x.setSpring(spring, strength == 4 ? 3 : strength + 1);
                Check.due("another strength", -2, x.proof(0));
                x.setSpring(spring, strength);
                Check.due("void still, the strength being back", -2, x.proof(0));
            }
        }
    }

    private static void notVoid() {
        Edge.terms("it is void");
        LedgeLevels x = withWork(0);
        x.begin(0);
        x.set(1, 0, 4);
        x.undo(1);
        x.redo(1);
        x.setStart(1, 3);
        x.copy(0, 1);
        x.set(2, 0, 8);
        x.setSpring(2, 1);
        x.star(0, 1, 5);
        x.run(0, 0);
        Walk.times(x, 0, Walk.RIGHT, 2);
        x.shortest(0, 5);
        x.reach(0);
        x.farthest(0);
        Check.badState(x, "an undoing that is refused", () -> x.redo(0));
        Check.badArgument(x, "an edit that is refused", () -> x.set(0, 0, 9));
        Check.outOfBounds(x, "a start that is refused", () -> x.setStart(0, 96));
        x.offer(0);
        Check.due("by none of these", 2, x.proof(0));
    }

    private static void numbersOfWorks() {
        Edge.terms("Works are numbered from 0 on");
        LedgeLevels x = withWork(3);
        for (int work = 1; work < 10; work++) {
            Check.due("the number", work, work % 2 == 0 ? x.offer(0) : offerCopy(x, work - 1, 2));
            Check.due("as many works", work + 1, x.works());
        }
    }

    private static void twentyWorks() {
        Edge.terms("at most 20 are offered.");
        LedgeLevels x = withWork(3);
        x.copy(0, 2);
        x.prove(1);
        for (int work = 1; work < 20; work++) {
            Check.due("the number", work, x.offer(work % 2));
        }
        Check.badState(x, "the twenty-first", () -> x.offer(0));
        Check.badState(x, "the twenty-first, of another level", () -> x.offer(1));
        Check.due("works", 20, x.works());
        Check.due("the last one is as any", 72, x.run(0, 19));
        Check.due("also to copy", 2, x.copy(19, 4));
        Check.outOfBounds(x, "work 20", () -> x.run(0, 20));
    }

    private static void whatCanBeOffered() {
        Edge.terms("A level that is proven with a shortest run can be offered by its author");
        LedgeLevels x = withGoal(2, 72);
        Check.badState(x, "one that is not proven", () -> x.offer(0));
        x.prove(0);
        Check.due("one with no steps", 0, x.offer(0));
        Check.due("by its author", 2, x.author(0));
        x.setStart(0, 0);
        x.set(0, 72, 0);
        x.prove(0);
        Check.badState(x, "one that is refuted", () -> x.offer(0));
    }

    private static void workHasThingsAsTheyAre() {
        Edge.terms("the work has its grid and start as they are, its lineage, and the number of steps.");
        LedgeLevels x = withWork(0);
        x.copy(0, 3);
        for (int kind = 0; kind <= 8; kind++) {
            x.set(1, kind, kind);
            x.set(1, 95 - kind, kind);
        }
        x.setStart(1, 73);
        x.prove(1);
        String grid = Seen.grid(x, 1);
        Check.due("the work", 1, x.offer(1));
        x.set(1, 74, 0);
        x.set(1, 0, 1);
        x.setStart(1, 5);
        x.prove(1);
        Check.due("the level", 2, x.copy(1, 0));
        Check.due("the grid", grid, Seen.grid(x, 2));
        Check.due("the start", 73, x.start(2));
        Check.due("the steps", 1, x.best(1));
        Check.due("the parent", 0, x.parent(1));
        Check.due("the author", 3, x.author(1));
    }

    private static void copyBeginsALevel() {
        Edge.terms("that begins a level with its grid and start, whose parent is the work");
        LedgeLevels x = new LedgeLevels();
        for (int kind = 0; kind <= 8; kind++) {
            int level = x.begin(0);
            x.set(level, 0, kind);
            x.set(level, 95, kind);
            x.set(level, 11, 5);
            x.setStart(level, 10);
            x.prove(level);
            x.offer(level);
        }
        for (int work = 6; work < 9; work++) {
            int copied = x.copy(work, 1);
            Check.due("the grid", Seen.grid(x, work), Seen.grid(x, copied));
            Check.due("the start", 10, x.start(copied));
            Check.due("its edits", 0, x.edits(copied, true));
            x.prove(copied);
            Check.due("the parent", work, x.parent(x.offer(copied)));
        }
    }

    private static void worksOfACopy() {
        Edge.terms("works that are offered from it have that parent.");
        LedgeLevels x = withWork(0);
        offerCopy(x, 0, 1);
        int level = x.copy(1, 2);
        for (int work = 2; work < 6; work++) {
            x.set(level, work, 1);
            x.setStart(level, 73 - work % 2);
            x.prove(level);
            Check.due("the work", work, x.offer(level));
            Check.due("the parent", 1, x.parent(work));
        }
        x.set(level, 74, 0);
        x.set(level, 75, 5);
        x.prove(level);
        Check.due("also of a level that was edited to another one", 1, x.parent(x.offer(level)));
    }

    private static void parentOrNone() {
        Edge.terms("A work has the parent of its level, or none");
        LedgeLevels x = withWork(0);
        x.copy(0, 1);
        x.prove(1);
        Check.due("a begun level's", -1, x.parent(0));
        Check.due("a copy's", 0, x.parent(x.offer(1)));
        Check.due("the begun level's again", -1, x.parent(x.offer(0)));
        Check.due("the copy's again", 0, x.parent(x.offer(1)));
    }

    /** Twelve levels, each but the first one a copy of the work before: no line is longer. */
    private static void longestLine() {
        Edge.terms("its line are it, its parent, the parent of that, and so on.");
        LedgeLevels x = withWork(0);
        for (int work = 1; work < 12; work++) {
            Check.due("the work", work, offerCopy(x, work - 1, work % 6));
        }
        for (int work = 0; work < 12; work++) {
            Check.due("the parent of " + work, work - 1, x.parent(work));
            Check.due("works with " + work + " in their line", 12 - work, x.line(work));
        }
        x.star(11, 1, 5);
        Check.due("the last one's stars come to the first one's author", 5, x.credit(0));
        x.offer(11);
        Check.due("one more with the first one", 13, x.line(0));
        Check.due("not with the last one", 1, x.line(11));
    }

    private static void searchedAgain() {
        Edge.terms("the work is searched again at once: it has another number of steps then");
        LedgeLevels x = new LedgeLevels();
        Draw.work(x, 0, Draw.TOWER);
        x.set(0, 83, 0);
        Check.due("at first", 14, x.best(0));
        x.setSpring(1, 4);
        Check.due("by its own grid, not the level's", 13, x.best(0));
        x.setSpring(1, 4);
        Check.due("the same strength", 13, x.best(0));
        x.setSpring(0, 1);
        x.setSpring(2, 1);
        Check.due("other kinds", 13, x.best(0));
        x.setSpring(1, 3);
        Check.due("and back", 14, x.best(0));
    }

    /** Three towers, each with a spring of another kind: a change touches the works that have its kind. */
    private static void searchedAgainByEachKind() {
        Edge.terms("When the strength of a spring kind in the grid of a work");
        LedgeLevels x = new LedgeLevels();
        for (int spring = 0; spring < 3; spring++) {
            x.setSpring(spring, 3);
            int level = Draw.level(x, spring, Draw.TOWER);
            x.set(level, 85, 6 + spring);
            x.prove(level);
            x.offer(level);
        }
        int[] changes = {2, 0, 1};
        int[][] due = {{14, 14, 13}, {13, 14, 13}, {13, 13, 13}};
        for (int change = 0; change < 3; change++) {
            x.setSpring(changes[change], 4);
            for (int work = 0; work < 3; work++) {
                Check.due("the work " + work + " behind the change " + change, due[change][work], x.best(work));
            }
        }
    }

    private static void withdrawn() {
        Edge.terms("or, if it cannot be won any more, it is withdrawn");
        LedgeLevels x = new LedgeLevels();
        Draw.work(x, 0, Draw.TOWER);
        x.copy(0, 1);
        x.setStart(1, 83);
        x.prove(1);
        x.offer(1);
        x.setSpring(1, 2);
        Check.due("withdrawn", -1, x.best(0));
        Check.due("one that needs no spring is not", 0, x.best(1));
        Check.due("the first still is the other's parent", 0, x.parent(1));
        Check.due("and in its line", 2, x.line(0));
        Check.due("no work is gone", 2, x.works());
    }

    private static void tillItCanBeWonAgain() {
        Edge.terms("till it can be won again by a later change.");
        LedgeLevels x = new LedgeLevels();
        Draw.work(x, 0, Draw.TOWER);
        int[] strengths = {2, 1, 4, 1, 3, 2, 2, 4};
        int[] due = {-1, -1, 13, -1, 14, -1, -1, 13};
        for (int change = 0; change < strengths.length; change++) {
            x.setSpring(1, strengths[change]);
            Check.due("the change " + change, due[change], x.best(0));
        }
        Check.due("it can be copied then", 1, x.copy(0, 0));
        Check.due("starred", 0, x.star(0, 1, 1));
        Check.due("and run", 48, x.run(0, 0));
    }

    /** The tower with a second way up: a spring of the kind 0 beside it. */
    private static void withdrawnByAnotherKind() {
        Edge.terms("When the strength of a spring kind in the grid of a work becomes another one");
        LedgeLevels x = new LedgeLevels();
        String[] two = Draw.TOWER.clone();
        two[7] = "#10#########";
        Draw.work(x, 0, two);
        x.setSpring(1, 1);
        Check.due("neither is strong enough", -1, x.best(0));
        x.setSpring(2, 1);
        Check.due("a kind that it has not", -1, x.best(0));
        x.setSpring(0, 4);
        Check.holds("won by the other kind", x.best(0) > 0);
        x.setSpring(0, 2);
        Check.due("withdrawn by the other kind", -1, x.best(0));
        x.setSpring(1, 3);
        Check.due("won by the first one", 14, x.best(0));
    }

    private static void notCopiedStarredOrRun() {
        Edge.terms("Works that are withdrawn are not copied, starred or run.");
        LedgeLevels x = new LedgeLevels();
        Draw.work(x, 0, Draw.TOWER);
        x.star(0, 1, 2);
        x.run(1, 0);
        x.setSpring(1, 1);
        Check.badState(x, "copied", () -> x.copy(0, 0));
        Check.badState(x, "starred", () -> x.star(0, 2, 1));
        Check.badState(x, "starred once more", () -> x.star(0, 1, 1));
        Check.badState(x, "run", () -> x.run(0, 0));
        Check.badState(x, "run once more", () -> x.run(1, 0));
        x.setSpring(1, 4);
        Check.due("the stars are as they were", 2, x.star(0, 1, 3));
    }

    private static void oneToFiveStars() {
        Edge.terms("A person gives a work 1 to 5 stars");
        LedgeLevels x = withWork(0);
        for (int stars = 1; stars <= 5; stars++) {
            Check.due("the first stars of the person " + stars, 0, x.star(0, stars, stars));
        }
        Check.due("all", 15, x.stars(0));
        Check.badArgument(x, "no stars", () -> x.star(0, 1, 0));
        Check.badArgument(x, "six stars", () -> x.star(0, 1, 6));
    }

    private static void inPlaceOfThoseBefore() {
        Edge.terms("in place of those that the person gave it before.");
        LedgeLevels x = withWork(0);
        x.offer(0);
        int[] given = {5, 1, 4, 4, 2};
        int before = 0;
        for (int stars : given) {
            Check.due("those before", before, x.star(0, 3, stars));
            Check.due("the sum", stars, x.stars(0));
            Check.due("the credit", stars, x.credit(0));
            Check.due("another work's", 0, x.stars(1));
            before = stars;
        }
    }

    private static void creditOfLines() {
        Edge.terms("The credit of a person is the sum of all stars of works whose line has a work of that author");
        LedgeLevels x = withWork(0);
        offerCopy(x, 0, 1);
        offerCopy(x, 1, 2);
        x.star(0, 1, 1);
        x.star(1, 0, 2);
        x.star(2, 0, 4);
        x.star(2, 1, 5);
        Check.due("the first author, also of own stars for others", 12, x.credit(0));
        Check.due("the second", 11, x.credit(1));
        Check.due("the third", 9, x.credit(2));
        Check.due("who has no works", 0, x.credit(3));
        Check.due("the last person", 0, x.credit(5));
    }

    private static void eachWorkOnce() {
        Edge.terms("each work counted once.");
        LedgeLevels x = withWork(0);
        offerCopy(x, 0, 0);
        offerCopy(x, 1, 0);
        offerCopy(x, 2, 1);
        for (int work = 0; work < 4; work++) {
            x.star(work, 5, work + 1);
        }
        Check.due("four works, three by the author", 10, x.credit(0));
        Check.due("one of them", 4, x.credit(1));
    }
}
