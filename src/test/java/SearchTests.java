/** Promises 7, 8 and 18 to 22: springs, proofs and what a search finds. */
final class SearchTests {
    private SearchTests() {
    }

    static void all() {
        setSpring();
        setSpringRefuses();
        setSpringCountsProofs();
        prove();
        proveBySprings();
        proveByKeys();
        proof();
        shortest();
        shortestLeavesProof();
        reach();
        reachAtTheStart();
        farthest();
        strength();
    }

    private static void setSpring() {
        Check.begin("promise 7, setSpring");
        LedgeLevels x = new LedgeLevels();
        x.begin(0);
        x.set(0, 0, 6);
        x.prove(0);
        Check.due("the same strength", 0, x.setSpring(0, 2));
        Check.due("leaves the proof", -1, x.proof(0));
        Check.due("a kind that is not there", 0, x.setSpring(1, 4));
        Check.due("leaves the proof", -1, x.proof(0));
        Check.due("another strength", 1, x.setSpring(0, 1));
        Check.due("takes the proof back", -2, x.proof(0));
        Check.due("the strength", 1, x.strength(0));
        Check.due("the others' stay", 4, x.strength(1));
        Check.due("the others' stay", 4, x.strength(2));
        Check.due("a void proof does not count", 0, x.setSpring(0, 4));
        Check.due("the highest strength", 4, x.strength(0));
    }

    private static void setSpringRefuses() {
        Check.begin("promise 7, what setSpring refuses");
        LedgeLevels x = new LedgeLevels();
        x.begin(0);
        x.set(0, 0, 6);
        x.prove(0);
        Check.outOfBounds(x, "spring 3", () -> x.setSpring(3, 1));
        Check.outOfBounds(x, "spring -1", () -> x.setSpring(-1, 1));
        Check.outOfBounds(x, "spring 3, strength 0", () -> x.setSpring(3, 0));
        Check.outOfBounds(x, "spring 6", () -> x.setSpring(6, 1));
        Check.badArgument(x, "strength 0", () -> x.setSpring(0, 0));
        Check.badArgument(x, "strength 5", () -> x.setSpring(0, 5));
        Check.badArgument(x, "strength -2", () -> x.setSpring(0, -2));
    }

    private static void setSpringCountsProofs() {
        Check.begin("promise 7, how many proofs are void");
        LedgeLevels x = new LedgeLevels();
        for (int level = 0; level < 5; level++) {
            x.begin(level);
            x.set(level, 3, 6 + level % 3);
        }
        x.set(1, 72, 5);
        x.set(4, 72, 5);
        x.set(4, 50, 8);
        for (int level = 0; level < 5; level++) {
            x.prove(level);
        }
        x.offer(4);
        Check.due("proven and refuted ones, no works", 2, x.setSpring(1, 1));
        Check.due("level 0", -1, x.proof(0));
        Check.due("level 1", -2, x.proof(1));
        Check.due("level 2", -1, x.proof(2));
        Check.due("level 3", -1, x.proof(3));
        Check.due("level 4", -2, x.proof(4));
        Check.due("only those that are not void yet", 1, x.setSpring(2, 2));
        x.set(0, 3, 0);
        x.prove(0);
        Check.due("only those that have it still", 1, x.setSpring(0, 1));
        Check.due("level 0", -1, x.proof(0));
    }

    private static void prove() {
        Check.begin("promise 8, prove");
        LedgeLevels x = new LedgeLevels();
        x.begin(0);
        Check.due("no goal", -1, x.prove(0));
        x.set(0, 79, 5);
        Check.due("a plain walk", 7, x.prove(0));
        Check.due("is kept", 7, x.proof(0));
        Check.due("once more", 7, x.prove(0));
        x.set(0, 78, 1);
        x.set(0, 66, 1);
        x.set(0, 54, 1);
        x.set(0, 42, 1);
        x.set(0, 30, 1);
        Check.due("behind a wall that is too high", -1, x.prove(0));
        x.set(0, 72, 5);
        Check.due("the start is a goal", 0, x.prove(0));
        x.set(0, 72, 4);
        Check.due("the start is spikes", -1, x.prove(0));
        Check.outOfBounds(x, "level 1", () -> x.prove(1));
        Check.outOfBounds(x, "level -1", () -> x.prove(-1));
    }

    private static void proveBySprings() {
        Check.begin("promise 8, springs");
        LedgeLevels x = new LedgeLevels();
        int level = Draw.level(x, 0, Draw.TOWER);
        Check.due("strength 3", 14, x.prove(level));
        x.setSpring(1, 4);
        Check.due("strength 4", 13, x.prove(level));
        x.setSpring(1, 2);
        Check.due("strength 2", -1, x.prove(level));
        x.setSpring(1, 1);
        Check.due("strength 1", -1, x.prove(level));
    }

    private static void proveByKeys() {
        Check.begin("promise 8, keys and doors");
        LedgeLevels x = new LedgeLevels();
        int level = Draw.level(x, 0,
            "############",
            "kS..k.DDG.k#",
            "############");
        Check.due("all keys first, one being behind the doors", -1, x.prove(level));
        x.set(level, 82, 0);
        Check.due("back to the one key, then the other", 9, x.prove(level));
        x.set(level, 72, 0);
        Check.due("one key", 7, x.prove(level));
        x.set(level, 76, 0);
        Check.due("a grid without keys", 7, x.prove(level));
        x.set(level, 74, 1);
        Check.due("a wall", -1, x.prove(level));
    }

    private static void proof() {
        Check.begin("promise 18, proof");
        LedgeLevels x = new LedgeLevels();
        x.begin(0);
        Check.due("at first", -2, x.proof(0));
        x.prove(0);
        Check.due("refuted", -1, x.proof(0));
        x.set(0, 74, 5);
        Check.due("void", -2, x.proof(0));
        x.prove(0);
        Check.due("proven", 2, x.proof(0));
        x.offer(0);
        Check.due("offered", 2, x.proof(0));
        x.copy(0, 1);
        Check.due("a copy's", -2, x.proof(1));
        Check.outOfBounds(x, "level 2", () -> x.proof(2));
        Check.outOfBounds(x, "level -1", () -> x.proof(-1));
    }

    private static void shortest() {
        Check.begin("promise 19, shortest");
        LedgeLevels x = new LedgeLevels();
        x.begin(0);
        Check.due("no goal", -1, x.shortest(0, 5));
        for (int steps = 0; steps <= 6; steps++) {
            x.set(0, 72 + steps, 5);
            for (int most = 0; most <= 5; most++) {
                Check.due(steps + " steps, at most " + most, steps <= most ? steps : -1, x.shortest(0, most));
            }
            x.set(0, 72 + steps, 0);
        }
        x.set(0, 38, 5);
        Check.due("by a jump", 2, x.shortest(0, 5));
        Check.due("by a jump, with too few", -1, x.shortest(0, 1));
        x.set(0, 72, 4);
        Check.due("lost at the start", -1, x.shortest(0, 5));
        Check.outOfBounds(x, "level 1", () -> x.shortest(1, 0));
        Check.outOfBounds(x, "level -1", () -> x.shortest(-1, 0));
        Check.outOfBounds(x, "level 1, most 6", () -> x.shortest(1, 6));
        Check.badArgument(x, "most 6", () -> x.shortest(0, 6));
        Check.badArgument(x, "most -1", () -> x.shortest(0, -1));
    }

    private static void shortestLeavesProof() {
        Check.begin("promises 19 to 21, nothing changes by asking");
        LedgeLevels x = new LedgeLevels();
        x.begin(0);
        x.set(0, 74, 5);
        String before = Seen.all(x);
        x.shortest(0, 5);
        x.reach(0);
        x.farthest(0);
        Check.due("all", before, Seen.all(x));
        x.prove(0);
        before = Seen.all(x);
        x.shortest(0, 1);
        x.reach(0);
        x.farthest(0);
        Check.due("all, when it is proven", before, Seen.all(x));
    }

    private static void reach() {
        Check.begin("promise 20, reach");
        LedgeLevels x = new LedgeLevels();
        x.begin(0);
        Check.due("the rows 3, 4 and 6, as no step ends in the row 5", 36, x.reach(0));
        int shut = Draw.level(x, 0,
            "############",
            "#S..#.......",
            "############");
        Check.due("a shut room", 3, x.reach(shut));
        x.set(shut, 76, 5);
        Check.due("with a goal, but not what is behind it", 4, x.reach(shut));
        x.set(shut, 75, 4);
        Check.due("spikes, where a body is lost", 2, x.reach(shut));
        x.set(shut, 75, 0);
        x.set(shut, 87, 0);
        Check.due("a hole in the floor, whose cell it passes", 5, x.reach(shut));
        Check.outOfBounds(x, "level 2", () -> x.reach(2));
        Check.outOfBounds(x, "level -1", () -> x.reach(-1));
    }

    private static void reachAtTheStart() {
        Check.begin("promises 20 and 21, at the start");
        LedgeLevels x = new LedgeLevels();
        x.begin(0);
        x.set(0, 72, 5);
        Check.due("won at the start", 1, x.reach(0));
        Check.due("won at the start", 72, x.farthest(0));
        x.set(0, 72, 4);
        Check.due("lost at the start", 0, x.reach(0));
        Check.due("lost at the start", -1, x.farthest(0));
        x.setStart(0, 95);
        x.set(0, 83, 1);
        Check.due("a start in a wall, with walls around: it falls out below", 1, x.reach(0));
        Check.due("the start", 95, x.farthest(0));
    }

    private static void farthest() {
        Check.begin("promise 21, farthest");
        LedgeLevels x = new LedgeLevels();
        x.begin(0);
        Check.due("the last column, the highest row", 47, x.farthest(0));
        x.set(0, 47, 1);
        Check.due("a ceiling in the row 3", 59, x.farthest(0));
        x.set(0, 59, 1);
        Check.due("a ceiling in the row 4", 71, x.farthest(0));
        x.set(0, 71, 1);
        Check.due("a ceiling in the row 5", 83, x.farthest(0));
        x.set(0, 83, 5);
        Check.due("also having won", 83, x.farthest(0));
        x.set(0, 83, 4);
        Check.due("but not being lost", 46, x.farthest(0));
        int shut = Draw.level(x, 0,
            "############",
            "#..S.#......",
            "############");
        Check.due("a shut room", 76, x.farthest(shut));
        Check.outOfBounds(x, "level 2", () -> x.farthest(2));
        Check.outOfBounds(x, "level -1", () -> x.farthest(-1));
    }

    private static void strength() {
        Check.begin("promise 22, strength");
        LedgeLevels x = new LedgeLevels();
        x.setSpring(2, 1);
        Check.due("as at first", 2, x.strength(0));
        Check.due("as at first", 3, x.strength(1));
        Check.due("as set", 1, x.strength(2));
        Check.outOfBounds(x, "spring 3", () -> x.strength(3));
        Check.outOfBounds(x, "spring -1", () -> x.strength(-1));
        Check.outOfBounds(x, "spring 6", () -> x.strength(6));
    }
}
