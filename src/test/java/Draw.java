/** Makes levels from pictures: eight rows of twelve signs, those above the picture being all air. */
final class Draw {
    /** Only a strength of 3 or 4 of the spring kind 1 lifts a body over the wall. */
    static final String[] TOWER = {
        "............",
        "....#.......",
        "....#.......",
        "....#.......",
        "S...#.......",
        "#...#.......",
        "#...#......G",
        "#1##########",
    };

    static final String KINDS = ".#kD^G012";

    private Draw() {
    }

    /** Begins a level as in the picture, S being the start, in air; answers its number. */
    static int level(LedgeLevels x, int author, String... rows) {
        int level = x.begin(author);
        for (int row = 0; row < 8; row++) {
            int line = row - (8 - rows.length);
            String signs = line < 0 ? "............" : rows[line];
            if (signs.length() != 12) {
                throw new IllegalStateException("a row of the picture has not twelve signs: " + signs);
            }
            for (int column = 0; column < 12; column++) {
                drawCell(x, level, 12 * row + column, signs.charAt(column));
            }
        }
        return level;
    }

    private static void drawCell(LedgeLevels x, int level, int cell, char sign) {
        int kind = sign == 'S' ? 0 : KINDS.indexOf(sign);
        if (x.at(level, cell) != kind) {
            x.set(level, cell, kind);
        }
        if (sign == 'S') {
            x.setStart(level, cell);
        }
    }

    /** Begins, proves and offers a level as in the picture; answers the work. */
    static int work(LedgeLevels x, int author, String... rows) {
        int level = level(x, author, rows);
        x.prove(level);
        return x.offer(level);
    }
}
