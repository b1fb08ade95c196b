/** All that can be asked of an object, as one text. */
final class Seen {
    private Seen() {
    }

    static String all(LedgeLevels x) {
        StringBuilder text = new StringBuilder();
        for (int level = 0; level < x.levels(); level++) {
            text.append("\nlevel ").append(level).append(' ').append(grid(x, level));
            text.append(" start ").append(x.start(level)).append(" proof ").append(x.proof(level));
            text.append(" edits ").append(x.edits(level, true)).append('/').append(x.edits(level, false));
        }
        for (int spring = 0; spring < 3; spring++) {
            text.append("\nspring ").append(x.strength(spring));
        }
        for (int work = 0; work < x.works(); work++) {
            text.append("\nwork ").append(work).append(' ').append(x.author(work)).append(' ').append(x.best(work));
            text.append(' ').append(x.parent(work)).append(' ').append(x.line(work));
            text.append(' ').append(x.stars(work)).append(' ').append(x.record(work));
        }
        for (int person = 0; person < 6; person++) {
            text.append("\nperson ").append(person).append(' ').append(x.credit(person));
            text.append(' ').append(x.runState(person)).append(' ').append(x.body(person));
            text.append(' ').append(x.speed(person)).append(' ').append(x.keys(person));
            text.append(' ').append(x.stepsOf(person));
        }
        return text.toString();
    }

    static String grid(LedgeLevels x, int level) {
        StringBuilder text = new StringBuilder();
        for (int cell = 0; cell < 96; cell++) {
            text.append(x.at(level, cell));
        }
        return text.toString();
    }
}
