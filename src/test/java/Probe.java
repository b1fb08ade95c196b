/** What an object answers to a long row of calls that change it: tells also what no call shows at once. */
final class Probe {
    private final LedgeLevels x;
    private final StringBuilder text = new StringBuilder();

    private Probe(LedgeLevels x) {
        this.x = x;
    }

    /** The object is of no use afterwards. */
    static String of(LedgeLevels x) {
        Probe probe = new Probe(x);
        probe.see();
        probe.stepRuns();
        probe.undoAndRedo();
        probe.starWorks();
        probe.changeSprings();
        probe.copyAndOffer();
        return probe.text.toString();
    }

    private void see() {
        text.append(Seen.all(x)).append('\n');
    }

    private void tell(String name, int... numbers) {
        Calls.Named named = Calls.named(name);
        text.append(named.with(numbers)).append(": ").append(Calls.answer(x, named, numbers)).append('\n');
    }

    private void stepRuns() {
        int[] inputs = {1, 2, 5, 0, 3};
        for (int person = 0; person < 6; person++) {
            for (int input : inputs) {
                tell("step", person, input);
                tell("speed", person);
                tell("keys", person);
            }
        }
    }

    private void undoAndRedo() {
        for (int level = 0; level < x.levels(); level++) {
            int done = x.edits(level, true);
            int undone = x.edits(level, false);
            for (int edit = 0; edit <= undone; edit++) {
                tell("redo", level);
            }
            text.append(Seen.grid(x, level)).append('\n');
            for (int edit = 0; edit <= undone + done; edit++) {
                tell("undo", level);
            }
            text.append(Seen.grid(x, level)).append('\n');
            for (int edit = 0; edit <= undone + done; edit++) {
                tell("redo", level);
            }
        }
    }

    private void starWorks() {
        for (int work = 0; work < x.works(); work++) {
            for (int person = 0; person < 6; person++) {
                tell("star", work, person, 5);
            }
        }
        see();
    }

    private void changeSprings() {
        for (int strength = 1; strength <= 4; strength++) {
            for (int spring = 0; spring < 3; spring++) {
                tell("setSpring", spring, strength);
            }
        }
        see();
    }

    private void copyAndOffer() {
        for (int work = 0; work < x.works(); work++) {
            tell("run", work % 6, work);
        }
        tell("copy", 0, 4);
        tell("begin", 3);
        for (int level = 0; level < x.levels(); level++) {
            tell("prove", level);
            tell("reach", level);
            tell("offer", level);
        }
        see();
    }
}
