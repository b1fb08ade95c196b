import java.util.function.IntSupplier;

/** Runs of 512 calls on the class and on the model, side by side; the calls are always the same ones. */
final class ModelTests {
    private static final int RUNS = 200;
    private static final int CALLS = 512;

    private final LedgeLevels x = new LedgeLevels();
    private final Model model = new Model();
    private final int[] events;
    private long seed;

    private ModelTests(int run, int[] events) {
        this.seed = 1000003L * run + 12345;
        this.events = events;
    }

    static void all() {
        Check.begin("the model");
        int[] events = new int[EVENTS.length];
        for (int run = 0; run < RUNS; run++) {
            new ModelTests(run, events).callMany(run);
        }
        for (int event = 0; event < EVENTS.length; event++) {
            Check.holds("the runs have no case of: " + EVENTS[event], events[event] > 0);
        }
    }

    private static final String[] EVENTS = {
        "a proven level", "a refuted level", "an offered work", "a withdrawn work", "a work that came back",
        "a won run", "a lost run", "a withdrawn run", "a key taken", "a work of a copy", "12 levels", "20 works",
        "40 edits", "a shortest run by rows", "a starred work",
    };

    private int below(int bound) {
        seed = seed * 6364136223846793005L + 1442695040888963407L;
        return (int) Math.floorMod(seed >>> 33, (long) bound);
    }

    /** A number below the bound, or, seldom, one that is out of range. */
    private int about(int bound) {
        int odd = below(40);
        return odd == 0 ? -1 : odd == 1 ? bound : below(Math.max(bound, 1));
    }

    /** By its style, a run begins with a level that needs its springs, edits but one level, or copies none. */
    private void callMany(int run) {
        int style = run % 5;
        if (style == 1 || style == 3) {
            drawTower();
        }
        int edits = style == 1 ? 1 : style == 2 ? 4 : 2;
        for (int call = calls; call < CALLS; call++) {
            if (call < 20 || below(6) < edits) {
                edit(style);
            } else {
                callOne(style);
            }
            countEvents();
        }
        compareAll();
    }

    private int calls = 0;

    private void drawTower() {
        same("begin", () -> x.begin(0), () -> model.begin(0));
        for (int row = 0; row < 8; row++) {
            for (int column = 0; column < 12; column++) {
                int cell = 12 * row + column;
                int kind = Draw.KINDS.indexOf(Draw.TOWER[row].charAt(column));
                if (kind > 0 && kind != x.at(0, cell)) {
                    same("set", () -> x.set(0, cell, kind), () -> model.set(0, cell, kind));
                    calls++;
                }
            }
        }
        same("setStart", () -> x.setStart(0, 48), () -> model.setStart(0, 48));
        same("prove", () -> x.prove(0), () -> model.prove(0));
        same("offer", () -> x.offer(0), () -> model.offer(0));
        calls += 4;
    }

    private void edit(int style) {
        int level = style == 2 ? 0 : about(Math.min(x.levels(), 3 + below(10)));
        int kind = new int[] {0, 1, 1, 1, 2, 3, 4, 5, 5, 6, 7, 8}[below(12)];
        int cell = below(3) == 0 ? about(96) : 36 + below(60);
        switch (below(12)) {
            case 0 -> same("begin", () -> x.begin(1), () -> model.begin(1));
            case 1 -> same("undo", () -> x.undo(level), () -> model.undo(level));
            case 2 -> same("redo", () -> x.redo(level), () -> model.redo(level));
            case 3 -> same("setStart", () -> x.setStart(level, cell), () -> model.setStart(level, cell));
            default -> same("set", () -> x.set(level, cell, kind), () -> model.set(level, cell, kind));
        }
    }

    private void callOne(int style) {
        int level = about(x.levels());
        int work = about(x.works());
        int person = about(6);
        int number = about(6);
        int spring = about(3);
        int pick = style == 3 ? 5 + below(10) : below(25);
        switch (pick) {
            case 0 -> same("begin", () -> x.begin(person), () -> model.begin(person));
            case 1 -> same("copy", () -> x.copy(work, person), () -> model.copy(work, person));
            case 2, 3 -> same("star", () -> x.star(work, person, number), () -> model.star(work, person, number));
            case 4 -> same("setStart", () -> x.setStart(level, 72), () -> model.setStart(level, 72));
            case 5, 6 -> same("run", () -> x.run(person, work), () -> model.run(person, work));
            case 7, 8 -> same("prove", () -> x.prove(level), () -> model.prove(level));
            case 9, 10, 11 -> same("offer", () -> x.offer(level), () -> model.offer(level));
            case 12 -> same("setSpring", () -> x.setSpring(spring, number), () -> model.setSpring(spring, number));
            case 13 -> ask(level, work, person, number);
            default -> same("step", () -> x.step(person, number), () -> model.step(person, number));
        }
    }

    private void ask(int level, int work, int person, int number) {
        same("shortest", () -> x.shortest(level, number), () -> model.shortest(level, number));
        same("reach", () -> x.reach(level), () -> model.reach(level));
        same("farthest", () -> x.farthest(level), () -> model.farthest(level));
        compareLevel(level);
        compareWork(work);
        comparePerson(person);
    }

    private void compareAll() {
        same("levels", x::levels, model::levels);
        same("works", x::works, model::works);
        for (int level = -1; level <= x.levels(); level++) {
            compareLevel(level);
        }
        for (int work = -1; work <= x.works(); work++) {
            compareWork(work);
        }
        for (int person = -1; person <= 6; person++) {
            comparePerson(person);
        }
        for (int spring = -1; spring <= 3; spring++) {
            int kind = spring;
            same("strength", () -> x.strength(kind), () -> model.strength(kind));
        }
    }

    private void compareLevel(int level) {
        for (int cell = -1; cell <= 96; cell++) {
            int place = cell;
            same("at", () -> x.at(level, place), () -> model.at(level, place));
        }
        same("start", () -> x.start(level), () -> model.start(level));
        same("edits", () -> x.edits(level, true), () -> model.edits(level, true));
        same("edits", () -> x.edits(level, false), () -> model.edits(level, false));
        same("proof", () -> x.proof(level), () -> model.proof(level));
    }

    private void compareWork(int work) {
        same("author", () -> x.author(work), () -> model.author(work));
        same("best", () -> x.best(work), () -> model.best(work));
        same("parent", () -> x.parent(work), () -> model.parent(work));
        same("line", () -> x.line(work), () -> model.line(work));
        same("stars", () -> x.stars(work), () -> model.stars(work));
        same("record", () -> x.record(work), () -> model.record(work));
    }

    private void comparePerson(int person) {
        same("credit", () -> x.credit(person), () -> model.credit(person));
        same("runState", () -> x.runState(person), () -> model.runState(person));
        same("body", () -> x.body(person), () -> model.body(person));
        same("speed", () -> x.speed(person), () -> model.speed(person));
        same("keys", () -> x.keys(person), () -> model.keys(person));
        same("stepsOf", () -> x.stepsOf(person), () -> model.stepsOf(person));
    }

    private void same(String what, IntSupplier call, IntSupplier modelled) {
        Check.due(what, answer(modelled), answer(call));
    }

    private static String answer(IntSupplier call) {
        try {
            return Integer.toString(call.getAsInt());
        } catch (RuntimeException e) {
            return "throws." + e.getClass().getSimpleName();
        }
    }

    private boolean[] wasWithdrawn = new boolean[20];

    private void countEvents() {
        for (Model.Level level : model.levels) {
            note(0, level.proof >= 0);
            note(1, level.proof == -1);
            note(12, level.done.size() == 40);
            note(13, level.proof > 1 && level.proof < 6);
        }
        for (int work = 0; work < model.works.size(); work++) {
            boolean isWithdrawn = model.works.get(work).best < 0;
            note(2, true);
            note(3, isWithdrawn);
            note(4, wasWithdrawn[work] && !isWithdrawn);
            wasWithdrawn[work] = isWithdrawn;
            note(9, model.works.get(work).parent >= 0);
            note(14, !model.works.get(work).stars.isEmpty());
        }
        for (int person = 0; person < 6; person++) {
            note(5, model.runState(person) == 2 && model.stepsOf(person) > 0);
            note(6, model.runState(person) == 3);
            note(7, model.runState(person) == 4);
            note(8, model.keys(person) > 0);
        }
        note(10, model.levels.size() == 12);
        note(11, model.works.size() == 20);
    }

    private void note(int event, boolean isSo) {
        events[event] += isSo ? 1 : 0;
    }
}
