import java.util.List;

/** The calls of the face that take numbers, by the promise of each, with what each number stands for. */
final class Calls {
    interface Call {
        int on(LedgeLevels x, int[] numbers);
    }

    /** Kinds of numbers: capitals for what throws IndexOutOfBoundsException, the others for ranges. */
    record Named(int promise, String name, String kinds, String noSuch, String outOfRange, Call call) {
        String with(int[] numbers) {
            StringBuilder text = new StringBuilder(name);
            for (int number : numbers) {
                text.append(' ').append(number);
            }
            return text.toString();
        }
    }

    private static final String LEVEL = "if there is no such level";
    private static final String WORK = "if there is no such work";
    private static final String PERSON = "if there is no such person";
    private static final String SPRING = "if there is no such spring kind";

    static final List<Named> ALL = List.of(
        new Named(2, "begin", "P", PERSON, "", (x, a) -> x.begin(a[0])),
        new Named(3, "set", "LCk", LEVEL + " or cell", "if kind is out of range", (x, a) -> x.set(a[0], a[1], a[2])),
        new Named(4, "setStart", "LC", LEVEL + " or cell", "", (x, a) -> x.setStart(a[0], a[1])),
        new Named(5, "undo", "L", LEVEL, "", (x, a) -> x.undo(a[0])),
        new Named(6, "redo", "L", LEVEL, "", (x, a) -> x.redo(a[0])),
        new Named(7, "setSpring", "Sf", SPRING, "if strength is out of range", (x, a) -> x.setSpring(a[0], a[1])),
        new Named(8, "prove", "L", LEVEL, "", (x, a) -> x.prove(a[0])),
        new Named(9, "offer", "L", LEVEL, "", (x, a) -> x.offer(a[0])),
        new Named(10, "copy", "WP", WORK + " or person", "", (x, a) -> x.copy(a[0], a[1])),
        new Named(11, "star", "WPs", WORK + " or person", "if stars is out of range",
            (x, a) -> x.star(a[0], a[1], a[2])),
        new Named(12, "run", "PW", PERSON + " or work", "", (x, a) -> x.run(a[0], a[1])),
        new Named(13, "step", "Pi", PERSON, "if input is out of range", (x, a) -> x.step(a[0], a[1])),
        new Named(15, "at", "LC", LEVEL + " or cell", "", (x, a) -> x.at(a[0], a[1])),
        new Named(16, "start", "L", LEVEL, "", (x, a) -> x.start(a[0])),
        new Named(17, "edits, undoing", "L", LEVEL, "", (x, a) -> x.edits(a[0], true)),
        new Named(17, "edits, doing again", "L", LEVEL, "", (x, a) -> x.edits(a[0], false)),
        new Named(18, "proof", "L", LEVEL, "", (x, a) -> x.proof(a[0])),
        new Named(19, "shortest", "Lm", LEVEL, "if most is out of range", (x, a) -> x.shortest(a[0], a[1])),
        new Named(20, "reach", "L", LEVEL, "", (x, a) -> x.reach(a[0])),
        new Named(21, "farthest", "L", LEVEL, "", (x, a) -> x.farthest(a[0])),
        new Named(22, "strength", "S", SPRING, "", (x, a) -> x.strength(a[0])),
        new Named(24, "author", "W", WORK, "", (x, a) -> x.author(a[0])),
        new Named(25, "best", "W", WORK, "", (x, a) -> x.best(a[0])),
        new Named(26, "parent", "W", WORK, "", (x, a) -> x.parent(a[0])),
        new Named(27, "line", "W", WORK, "", (x, a) -> x.line(a[0])),
        new Named(28, "stars", "W", WORK, "", (x, a) -> x.stars(a[0])),
        new Named(29, "credit", "P", PERSON, "", (x, a) -> x.credit(a[0])),
        new Named(30, "record", "W", WORK, "", (x, a) -> x.record(a[0])),
        new Named(31, "runState", "P", PERSON, "", (x, a) -> x.runState(a[0])),
        new Named(32, "body", "P", PERSON, "", (x, a) -> x.body(a[0])),
        new Named(33, "speed", "P", PERSON, "", (x, a) -> x.speed(a[0])),
        new Named(34, "keys", "P", PERSON, "", (x, a) -> x.keys(a[0])),
        new Named(35, "stepsOf", "P", PERSON, "", (x, a) -> x.stepsOf(a[0])));

    private Calls() {
    }

    /** The answer as a text, or the name of what was thrown. */
    static String answer(LedgeLevels x, Named named, int... numbers) {
        try {
            return Integer.toString(named.call.on(x, numbers));
        } catch (RuntimeException e) {
            return e.getClass().getSimpleName();
        }
    }

    static Named named(String name) {
        for (Named named : ALL) {
            if (named.name.equals(name)) {
                return named;
            }
        }
        throw new IllegalStateException("no call is named " + name);
    }
}
