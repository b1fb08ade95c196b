import java.util.ArrayDeque;
import java.util.ArrayList;
import java.util.Deque;
import java.util.HashMap;
import java.util.HashSet;
import java.util.List;
import java.util.Map;
import java.util.Set;
import java.util.TreeSet;

/**
 * The document once more, in another way than the class: with rows and columns, sets of keys and maps.
 * It is slow, and meant for comparing only.
 */
final class Model {
    /** A body that is never changed: stepping makes another one. */
    record Body(int row, int column, int speed, Set<Integer> keys, String fate) {
        int cell() {
            return 12 * row + column;
        }

        Body with(int newSpeed) {
            return new Body(row, column, newSpeed, keys, fate);
        }
    }

    static final class Level {
        int author;
        int parent = -1;
        int[] grid = new int[96];
        int start = 72;
        int proof = -2;
        Deque<int[]> done = new ArrayDeque<>();
        Deque<int[]> undone = new ArrayDeque<>();
    }

    static final class Work {
        int author;
        int parent;
        int[] grid;
        int start;
        int best;
        int record = -1;
        Map<Integer, Integer> stars = new HashMap<>();
    }

    static final class Run {
        Work work;
        Body body;
        int steps;
        boolean isTakenBack;
    }

    final List<Level> levels = new ArrayList<>();
    final List<Work> works = new ArrayList<>();
    final Run[] runs = new Run[6];
    final int[] strengths = {2, 3, 4};

    private static void within(int number, int count) {
        if (number < 0 || number >= count) {
            throw new IndexOutOfBoundsException();
        }
    }

    private static void argument(boolean isRight) {
        if (!isRight) {
            throw new IllegalArgumentException();
        }
    }

    private static void state(boolean isRight) {
        if (!isRight) {
            throw new IllegalStateException();
        }
    }

    private Level level(int level) {
        within(level, levels.size());
        return levels.get(level);
    }

    private Work work(int work) {
        within(work, works.size());
        return works.get(work);
    }

    private static int keysOf(int[] grid) {
        int count = 0;
        for (int kind : grid) {
            count += kind == 2 ? 1 : 0;
        }
        return count;
    }

    // ---- bodies

    private boolean solid(int[] grid, int row, int column, Set<Integer> keys) {
        if (column < 0 || column > 11 || row < 0) {
            return true;
        }
        if (row > 7) {
            return false;
        }
        return switch (grid[12 * row + column]) {
            case 1, 6, 7, 8 -> true;
            case 3 -> keys.size() < keysOf(grid);
            default -> false;
        };
    }

    private Body comeTo(int[] grid, Body body, int row, int column) {
        if (row > 7) {
            return new Body(body.row, body.column, body.speed, body.keys, "lost");
        }
        int cell = 12 * row + column;
        Set<Integer> keys = body.keys;
        if (grid[cell] == 2) {
            keys = new TreeSet<>(keys);
            keys.add(cell);
        }
        String fate = grid[cell] == 4 ? "lost" : grid[cell] == 5 ? "won" : "on";
        return new Body(row, column, body.speed, keys, fate);
    }

    Body place(int[] grid, int start) {
        return comeTo(grid, new Body(0, 0, 0, new TreeSet<>(), "on"), start / 12, start % 12);
    }

    Body stepped(int[] grid, Body old, int input) {
        Body body = old;
        if (body.speed >= 0 && solid(grid, body.row + 1, body.column, body.keys)) {
            body = body.with(input > 2 ? -2 : 0);
        }
        int[] directions = {-1, 0, 1, -1, 0, 1};
        int aside = body.column + directions[input];
        if (aside != body.column && !solid(grid, body.row, aside, body.keys)) {
            body = comeTo(grid, body, body.row, aside);
        }
        int left = Math.abs(body.speed);
        int down = Integer.signum(body.speed);
        while (left > 0 && body.fate.equals("on")) {
            int row = body.row + down;
            if (solid(grid, row, body.column, body.keys)) {
                int kind = row < 0 ? 1 : grid[12 * row + body.column];
                return body.with(down > 0 && kind >= 6 ? -strengths[kind - 6] : 0);
            }
            body = comeTo(grid, body, row, body.column);
            left--;
        }
        return body.fate.equals("on") ? body.with(Math.min(3, body.speed + 1)) : body;
    }

    /** All bodies that can be, by the fewest steps to them. */
    private Map<Body, Integer> bodies(int[] grid, int start) {
        Map<Body, Integer> steps = new HashMap<>();
        Deque<Body> open = new ArrayDeque<>();
        Body first = place(grid, start);
        steps.put(first, 0);
        open.add(first);
        while (!open.isEmpty()) {
            Body body = open.remove();
            for (int input = 0; input < 6 && body.fate.equals("on"); input++) {
                Body next = stepped(grid, body, input);
                if (!steps.containsKey(next)) {
                    steps.put(next, steps.get(body) + 1);
                    open.add(next);
                }
            }
        }
        return steps;
    }

    private int searched(int[] grid, int start) {
        int best = -1;
        for (Map.Entry<Body, Integer> entry : bodies(grid, start).entrySet()) {
            if (entry.getKey().fate.equals("won") && (best < 0 || entry.getValue() < best)) {
                best = entry.getValue();
            }
        }
        return best;
    }

    private Set<Integer> cells(int level) {
        Set<Integer> cells = new HashSet<>();
        for (Body body : bodies(level(level).grid, level(level).start).keySet()) {
            if (!body.fate.equals("lost")) {
                cells.add(body.cell());
            }
        }
        return cells;
    }

    private boolean rowWins(int[] grid, int start, int row, int length) {
        Body body = place(grid, start);
        int rest = row;
        for (int step = 0; step < length && body.fate.equals("on"); step++) {
            body = stepped(grid, body, rest % 6);
            rest /= 6;
        }
        return body.fate.equals("won");
    }

    // ---- levels

    int begin(int author) {
        within(author, 6);
        state(levels.size() < 12);
        Level level = new Level();
        level.author = author;
        java.util.Arrays.fill(level.grid, 84, 96, 1);
        levels.add(level);
        return levels.size() - 1;
    }

    int set(int level, int cell, int kind) {
        Level edited = level(level);
        within(cell, 96);
        argument(kind >= 0 && kind <= 8);
        int[] then = edited.grid.clone();
        then[cell] = kind;
        state(keysOf(then) <= 3);
        int before = edited.grid[cell];
        edited.grid = then;
        edited.done.addLast(new int[] {cell, before, kind});
        if (edited.done.size() > 40) {
            edited.done.removeFirst();
        }
        edited.undone.clear();
        edited.proof = -2;
        return before;
    }

    int setStart(int level, int cell) {
        Level edited = level(level);
        within(cell, 96);
        int before = edited.start;
        edited.start = cell;
        edited.proof = -2;
        return before;
    }

    int undo(int level) {
        Level edited = level(level);
        state(!edited.done.isEmpty());
        int[] edit = edited.done.removeLast();
        edited.undone.push(edit);
        edited.grid[edit[0]] = edit[1];
        edited.proof = -2;
        return edit[0];
    }

    int redo(int level) {
        Level edited = level(level);
        state(!edited.undone.isEmpty());
        int[] edit = edited.undone.pop();
        edited.done.addLast(edit);
        edited.grid[edit[0]] = edit[2];
        edited.proof = -2;
        return edit[0];
    }

    private static boolean has(int[] grid, int kind) {
        for (int there : grid) {
            if (there == kind) {
                return true;
            }
        }
        return false;
    }

    int setSpring(int spring, int strength) {
        within(spring, 3);
        argument(strength >= 1 && strength <= 4);
        boolean isAnother = strengths[spring] != strength;
        strengths[spring] = strength;
        for (Work work : works) {
            if (isAnother && has(work.grid, 6 + spring)) {
                searchAgain(work);
            }
        }
        int count = 0;
        for (Level level : levels) {
            if (isAnother && has(level.grid, 6 + spring)) {
                count += level.proof == -2 ? 0 : 1;
                level.proof = -2;
            }
        }
        return count;
    }

    private void searchAgain(Work work) {
        work.best = searched(work.grid, work.start);
        for (Run run : runs) {
            if (run != null && run.work == work && work.best < 0 && run.body.fate.equals("on")) {
                run.isTakenBack = true;
            }
        }
    }

    int prove(int level) {
        level(level).proof = searched(level(level).grid, level(level).start);
        return level(level).proof;
    }

    // ---- the exchange

    int offer(int level) {
        Level offered = level(level);
        state(offered.proof >= 0 && works.size() < 20);
        Work work = new Work();
        work.author = offered.author;
        work.parent = offered.parent;
        work.grid = offered.grid.clone();
        work.start = offered.start;
        work.best = offered.proof;
        works.add(work);
        return works.size() - 1;
    }

    int copy(int work, int person) {
        Work copied = work(work);
        within(person, 6);
        state(copied.best >= 0 && levels.size() < 12);
        Level level = new Level();
        level.author = person;
        level.parent = work;
        level.grid = copied.grid.clone();
        level.start = copied.start;
        levels.add(level);
        return levels.size() - 1;
    }

    int star(int work, int person, int stars) {
        Work starred = work(work);
        within(person, 6);
        argument(stars >= 1 && stars <= 5);
        state(starred.best >= 0 && starred.author != person);
        Integer before = starred.stars.put(person, stars);
        return before == null ? 0 : before;
    }

    // ---- runs

    int run(int person, int work) {
        within(person, 6);
        Work played = work(work);
        state(played.best >= 0);
        Run run = new Run();
        run.work = played;
        run.body = place(played.grid, played.start);
        runs[person] = run;
        return answer(run);
    }

    private static int answer(Run run) {
        if (run.body.fate.equals("won")) {
            int record = run.work.record;
            run.work.record = record < 0 ? run.steps : Math.min(record, run.steps);
            return -2;
        }
        return run.body.fate.equals("lost") ? -1 : run.body.cell();
    }

    int step(int person, int input) {
        within(person, 6);
        argument(input >= 0 && input <= 5);
        state(runState(person) == 1 && runs[person].steps < 200);
        runs[person].body = stepped(runs[person].work.grid, runs[person].body, input);
        runs[person].steps++;
        return answer(runs[person]);
    }

    // ---- as things are

    int levels() {
        return levels.size();
    }

    int at(int level, int cell) {
        within(level, levels.size());
        within(cell, 96);
        return levels.get(level).grid[cell];
    }

    int start(int level) {
        return level(level).start;
    }

    int edits(int level, boolean isUndo) {
        return isUndo ? level(level).done.size() : level(level).undone.size();
    }

    int proof(int level) {
        return level(level).proof;
    }

    int shortest(int level, int most) {
        Level tried = level(level);
        argument(most >= 0 && most <= 5);
        int rows = 1;
        for (int length = 0; length <= most; length++) {
            for (int row = 0; row < rows; row++) {
                if (rowWins(tried.grid, tried.start, row, length)) {
                    return length;
                }
            }
            rows *= 6;
        }
        return -1;
    }

    int reach(int level) {
        return cells(level).size();
    }

    int farthest(int level) {
        int best = -1;
        for (int cell : cells(level)) {
            boolean isFarther = best < 0 || cell % 12 > best % 12 || cell % 12 == best % 12 && cell < best;
            best = isFarther ? cell : best;
        }
        return best;
    }

    int strength(int spring) {
        within(spring, 3);
        return strengths[spring];
    }

    int works() {
        return works.size();
    }

    int author(int work) {
        return work(work).author;
    }

    int best(int work) {
        return work(work).best;
    }

    int parent(int work) {
        return work(work).parent;
    }

    private List<Integer> lineOf(int work) {
        List<Integer> line = new ArrayList<>();
        line.add(work);
        if (work(work).parent >= 0) {
            line.addAll(lineOf(work(work).parent));
        }
        return line;
    }

    int line(int work) {
        work(work);
        int count = 0;
        for (int other = 0; other < works.size(); other++) {
            count += lineOf(other).contains(work) ? 1 : 0;
        }
        return count;
    }

    int stars(int work) {
        int sum = 0;
        for (int stars : work(work).stars.values()) {
            sum += stars;
        }
        return sum;
    }

    int credit(int person) {
        within(person, 6);
        int sum = 0;
        for (int work = 0; work < works.size(); work++) {
            boolean counts = false;
            for (int ahead : lineOf(work)) {
                counts = counts || works.get(ahead).author == person;
            }
            sum += counts ? stars(work) : 0;
        }
        return sum;
    }

    int record(int work) {
        return work(work).record;
    }

    int runState(int person) {
        within(person, 6);
        Run run = runs[person];
        if (run == null) {
            return 0;
        }
        return run.isTakenBack ? 4 : run.body.fate.equals("on") ? 1 : run.body.fate.equals("won") ? 2 : 3;
    }

    int body(int person) {
        return runState(person) == 0 ? -1 : runs[person].body.cell();
    }

    int speed(int person) {
        return runState(person) == 0 ? 0 : runs[person].body.speed;
    }

    int keys(int person) {
        return runState(person) == 0 ? 0 : runs[person].body.keys.size();
    }

    int stepsOf(int person) {
        return runState(person) == 0 ? 0 : runs[person].steps;
    }
}
