import java.util.ArrayList;
import java.util.HashMap;
import java.util.List;
import java.util.Map;
import java.util.function.Supplier;

/** For every call that takes numbers: the last that is taken and the first that is refused, on both sides. */
final class BoundsTests {
    private static final String OUT_OF_BOUNDS = "IndexOutOfBoundsException";
    private static final String BAD_ARGUMENT = "IllegalArgumentException";
    private static final String BAD_STATE = "IllegalStateException";

    /** The numbers of each kind that there are, first and last; those beside them are refused. */
    private final Map<Character, int[]> taken = new HashMap<>();
    private final Supplier<LedgeLevels> maker;

    private BoundsTests(Supplier<LedgeLevels> maker) {
        this.maker = maker;
        taken.put('C', new int[] {0, 95});
        taken.put('P', new int[] {0, 5});
        taken.put('S', new int[] {0, 2});
        taken.put('k', new int[] {0, 8});
        taken.put('f', new int[] {1, 4});
        taken.put('s', new int[] {1, 5});
        taken.put('i', new int[] {0, 5});
        taken.put('m', new int[] {0, 5});
        LedgeLevels x = maker.get();
        taken.put('L', new int[] {0, x.levels() - 1});
        taken.put('W', new int[] {0, x.works() - 1});
    }

    static void all() {
        BoundsTests open = new BoundsTests(BoundsTests::openWorkshop);
        BoundsTests full = new BoundsTests(BoundsTests::fullWorkshop);
        for (Calls.Named named : Calls.ALL) {
            Edge.promise(named.promise(), named.noSuch());
            open.takes(named);
            open.refuses(named, true);
            full.refuses(named, true);
            if (!named.outOfRange().isEmpty()) {
                Edge.promise(named.promise(), named.outOfRange());
                open.takes(named);
                open.refuses(named, false);
                full.refuses(named, false);
            }
        }
        Edge.terms("throws IndexOutOfBoundsException if there is no such one");
        new BoundsTests(LedgeLevels::new).refusesAllInNewObject();
        Edge.terms("the one that is named first in the throws clause is thrown");
        full.refusesByState();
        Edge.terms("A call that throws an exception changes nothing.");
        open.changesNothing();
        full.changesNothing();
    }

    /** Levels of each proof, with edits that are undone; works with stars; runs of each state. */
    private static LedgeLevels openWorkshop() {
        LedgeLevels x = new LedgeLevels();
        Draw.work(x, 4, Draw.TOWER);
        x.undo(0);
        x.undo(0);
        x.copy(0, 1);
        x.prove(1);
        x.set(1, 95, 4);
        x.prove(1);
        x.offer(1);
        x.begin(2);
        x.set(2, 0, 8);
        x.set(2, 95, 2);
        x.undo(2);
        x.prove(2);
        x.star(0, 0, 3);
        x.star(1, 5, 4);
        for (int person = 0; person < 6; person++) {
            x.run(person, person % 2);
        }
        Walk.times(x, 0, Walk.RIGHT, 2);
        return x;
    }

    /** Twelve levels with three keys each, all but the first one without edits; twenty works, all withdrawn. */
    private static LedgeLevels fullWorkshop() {
        LedgeLevels x = new LedgeLevels();
        int level = Draw.level(x, 4, Draw.TOWER);
        x.set(level, 9, 2);
        x.set(level, 10, 2);
        x.set(level, 11, 2);
        x.prove(level);
        for (int work = 0; work < 20; work++) {
            x.offer(level);
        }
        for (int copied = 1; copied < 12; copied++) {
            x.copy(copied, copied % 6);
        }
        x.star(0, 0, 3);
        x.run(5, 19);
        x.run(1, 0);
        x.setSpring(1, 1);
        return x;
    }

    private boolean isTaken(char kind, int number) {
        int[] ends = taken.get(kind);
        return number >= ends[0] && number <= ends[1];
    }

    private List<Integer> beside(char kind) {
        int[] ends = taken.get(kind);
        List<Integer> numbers = new ArrayList<>(List.of(Integer.MIN_VALUE, -1, ends[0] - 1));
        numbers.addAll(List.of(ends[1] + 1, ends[1] + 2, 12, 20, 96, 65536, Integer.MAX_VALUE));
        numbers.removeIf(number -> isTaken(kind, number));
        return numbers;
    }

    /** All rows of numbers, of each kind the first and the last that are taken, and those that are not. */
    private List<int[]> rows(String kinds) {
        List<int[]> rows = new ArrayList<>(List.of(new int[kinds.length()]));
        for (int place = 0; place < kinds.length(); place++) {
            List<Integer> numbers = beside(kinds.charAt(place));
            numbers.add(taken.get(kinds.charAt(place))[0]);
            numbers.add(taken.get(kinds.charAt(place))[1]);
            List<int[]> longer = new ArrayList<>();
            for (int[] row : rows) {
                for (int number : numbers) {
                    int[] next = row.clone();
                    next[place] = number;
                    longer.add(next);
                }
            }
            rows = longer;
        }
        return rows;
    }

    /** What is due by the numbers alone: an exception, or none. */
    private String dueBy(String kinds, int[] row) {
        String due = "";
        for (int place = 0; place < row.length; place++) {
            boolean isRange = Character.isLowerCase(kinds.charAt(place));
            if (!isTaken(kinds.charAt(place), row[place]) && !due.equals(OUT_OF_BOUNDS)) {
                due = isRange ? BAD_ARGUMENT : OUT_OF_BOUNDS;
            }
        }
        return due;
    }

    private void takes(Calls.Named named) {
        for (int[] row : rows(named.kinds())) {
            if (dueBy(named.kinds(), row).isEmpty()) {
                String answer = Calls.answer(maker.get(), named, row);
                boolean isTaken = !answer.equals(OUT_OF_BOUNDS) && !answer.equals(BAD_ARGUMENT);
                Check.holds(named.with(row) + " is refused by " + answer, isTaken);
            }
        }
    }

    private void refuses(Calls.Named named, boolean isIndex) {
        LedgeLevels x = maker.get();
        String before = Seen.all(x);
        for (int[] row : rows(named.kinds())) {
            String due = dueBy(named.kinds(), row);
            if (due.equals(isIndex ? OUT_OF_BOUNDS : BAD_ARGUMENT)) {
                Check.due(named.with(row), due, Calls.answer(x, named, row));
            }
        }
        Check.due("nothing changes by what " + named.name() + " refuses", before, Seen.all(x));
    }

    /** The calls that throw by what the object holds: each takes no number at all in a full workshop. */
    private void refusesByState() {
        taken.put('L', new int[] {1, 11});
        taken.put('k', new int[] {2, 2});
        LedgeLevels x = maker.get();
        String before = Seen.all(x);
        String[] names = {"begin", "set", "undo", "redo", "offer", "copy", "star", "run", "step"};
        for (String name : names) {
            Calls.Named named = Calls.named(name);
            for (int[] row : rows(named.kinds())) {
                boolean isFirstLevel = named.kinds().startsWith("L") && row[0] == 0;
                String due = dueBy(named.kinds(), row);
                boolean isOtherKind = name.equals("set") && row[2] != 2 && row[2] >= 0 && row[2] <= 8;
                if (!isFirstLevel && !isOtherKind) {
                    Check.due(named.with(row), due.isEmpty() ? BAD_STATE : due, Calls.answer(x, named, row));
                }
            }
        }
        Check.due("nothing changes", before, Seen.all(x));
        taken.put('L', new int[] {0, 11});
        taken.put('k', new int[] {0, 8});
    }

    /** All refused calls on one object, which then answers to a long row of calls as if there were none. */
    private void changesNothing() {
        LedgeLevels x = maker.get();
        int refused = 0;
        for (Calls.Named named : Calls.ALL) {
            for (int[] row : rows(named.kinds())) {
                if (!dueBy(named.kinds(), row).isEmpty()) {
                    Check.due(named.with(row), dueBy(named.kinds(), row), Calls.answer(x, named, row));
                    refused++;
                }
            }
        }
        Check.holds("no call was refused", refused > 0);
        Check.due("the calls behind refused ones", Probe.of(maker.get()), Probe.of(x));
    }

    /** Without levels and works, no number of either is taken; persons, springs and cells are as ever. */
    private void refusesAllInNewObject() {
        LedgeLevels x = maker.get();
        for (Calls.Named named : Calls.ALL) {
            boolean needsOne = named.kinds().contains("L") || named.kinds().contains("W");
            for (int[] row : rows(named.kinds())) {
                if (needsOne) {
                    Check.due(named.with(row), OUT_OF_BOUNDS, Calls.answer(x, named, row));
                }
            }
        }
        Check.due("nothing changes", Probe.of(new LedgeLevels()), Probe.of(x));
    }
}
