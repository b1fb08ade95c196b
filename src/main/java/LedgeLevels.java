/**
 * A workshop of platform levels: grids that are edited, searched, offered, copied, starred and run.
 * Every row that a search needs is made once, so that calls make next to no objects.
 */
public final class LedgeLevels {
    private static final int COLUMNS = 12;
    private static final int ROWS = 8;
    private static final int CELLS = 96;
    private static final int FIRST_START = 72;

    private static final int AIR = 0;
    private static final int WALL = 1;
    private static final int KEY = 2;
    private static final int DOOR = 3;
    private static final int SPIKES = 4;
    private static final int GOAL = 5;
    private static final int FIRST_SPRING = 6;
    private static final int LAST_KIND = 8;

    private static final int PERSONS = 6;
    private static final int SPRINGS = 3;
    private static final int INPUTS = 6;
    private static final int MOST_LEVELS = 12;
    private static final int MOST_WORKS = 20;
    private static final int MOST_KEYS = 3;
    private static final int MOST_EDITS = 40;
    private static final int MOST_STARS = 5;
    private static final int MOST_STRENGTH = 4;
    private static final int MOST_ROW_STEPS = 5;
    private static final int MOST_RUN_STEPS = 200;

    private static final int JUMP_SPEED = -2;
    private static final int MOST_SPEED = 3;

    private static final int NONE = -1;
    private static final int REFUTED = -1;
    private static final int VOID = -2;

    /** What becomes of a body or a run; the numbers are those that runState answers. */
    private static final int NO_RUN = 0;
    private static final int GOES_ON = 1;
    private static final int WON = 2;
    private static final int LOST = 3;
    private static final int WITHDRAWN = 4;

    /** A state of a going body: its cell, its speed from -4 to 3 in three bits, its keys in three. */
    private static final int STATES = 6144;

    private final int[] strengths = {2, 3, 4};
    private final Level[] levels = new Level[MOST_LEVELS];
    private final Work[] works = new Work[MOST_WORKS];
    private final Run[] runs = new Run[PERSONS];
    private final Search search = new Search(strengths);
    private int levelCount = 0;
    private int workCount = 0;

    public LedgeLevels() {
        for (int person = 0; person < runs.length; person++) {
            runs[person] = new Run(strengths);
        }
    }

    // ---- levels

    public int begin(int author) throws IndexOutOfBoundsException, IllegalStateException {
        checkPerson(author);
        Level level = addLevel(author, null);
        for (int cell = CELLS - COLUMNS; cell < CELLS; cell++) {
            level.grid.put(cell, WALL);
        }
        return levelCount - 1;
    }

    public int set(int level, int cell, int kind)
            throws IndexOutOfBoundsException, IllegalArgumentException, IllegalStateException {
        Level edited = levelOf(level);
        checkCell(cell);
        if (kind < AIR || kind > LAST_KIND) {
            throw new IllegalArgumentException("no such kind of cell");
        }
        int before = edited.grid.kindAt(cell);
        if (kind == KEY && before != KEY && edited.grid.keyCount() >= MOST_KEYS) {
            throw new IllegalStateException("too many keys");
        }
        edited.history.remember(cell, before, kind);
        edited.putAnew(cell, kind);
        return before;
    }

    public int setStart(int level, int cell) throws IndexOutOfBoundsException {
        Level edited = levelOf(level);
        checkCell(cell);
        int before = edited.start;
        edited.start = cell;
        edited.proof = VOID;
        return before;
    }

    public int undo(int level) throws IndexOutOfBoundsException, IllegalStateException {
        Level edited = levelOf(level);
        History history = edited.history;
        if (history.done <= 0) {
            throw new IllegalStateException("no edit to undo");
        }
        history.stepBack();
        int cell = history.cellOfNext();
        edited.putAnew(cell, history.kindBeforeNext());
        return cell;
    }

    public int redo(int level) throws IndexOutOfBoundsException, IllegalStateException {
        Level edited = levelOf(level);
        History history = edited.history;
        if (history.undone <= 0) {
            throw new IllegalStateException("no edit to do again");
        }
        int cell = history.cellOfNext();
        edited.putAnew(cell, history.kindAfterNext());
        history.stepOn();
        return cell;
    }

    public int setSpring(int spring, int strength) throws IndexOutOfBoundsException, IllegalArgumentException {
        checkSpring(spring);
        if (strength < 1 || strength > MOST_STRENGTH) {
            throw new IllegalArgumentException("no such strength");
        }
        if (strengths[spring] == strength) {
            return 0;
        }
        strengths[spring] = strength;
        for (int number = 0; number < workCount; number++) {
            Work work = workOf(number);
            if (work.grid.has(FIRST_SPRING + spring)) {
                work.best = search.explore(work.grid, work.start, true);
                endRunsIfWithdrawn(work);
            }
        }
        return voidProofsWith(FIRST_SPRING + spring);
    }

    public int prove(int level) throws IndexOutOfBoundsException {
        Level proven = levelOf(level);
        proven.proof = search.explore(proven.grid, proven.start, true);
        return proven.proof;
    }

    // ---- the exchange

    public int offer(int level) throws IndexOutOfBoundsException, IllegalStateException {
        Level offered = levelOf(level);
        if (offered.proof < 0) {
            throw new IllegalStateException("no proof with a shortest run");
        }
        if (workCount >= works.length) {
            throw new IllegalStateException("too many works");
        }
        works[workCount] = new Work(workCount, offered);
        workCount++;
        return workCount - 1;
    }

    public int copy(int work, int person) throws IndexOutOfBoundsException, IllegalStateException {
        Work copied = workOf(work);
        checkPerson(person);
        checkNotWithdrawn(copied);
        Level level = addLevel(person, copied);
        level.grid.putAllOf(copied.grid);
        level.start = copied.start;
        return levelCount - 1;
    }

    public int star(int work, int person, int stars)
            throws IndexOutOfBoundsException, IllegalArgumentException, IllegalStateException {
        Work starred = workOf(work);
        checkPerson(person);
        if (stars < 1 || stars > MOST_STARS) {
            throw new IllegalArgumentException("no such number of stars");
        }
        checkNotWithdrawn(starred);
        if (starred.author == person) {
            throw new IllegalStateException("authors do not star their own works");
        }
        int before = starred.given[person];
        starred.given[person] = stars;
        return before;
    }

    // ---- runs

    public int run(int person, int work) throws IndexOutOfBoundsException, IllegalStateException {
        Run begun = runOf(person);
        Work played = workOf(work);
        checkNotWithdrawn(played);
        begun.beginOn(played);
        return begun.answer();
    }

    public int step(int person, int input)
            throws IndexOutOfBoundsException, IllegalArgumentException, IllegalStateException {
        Run stepped = runOf(person);
        if (input < 0 || input >= INPUTS) {
            throw new IllegalArgumentException("no such input");
        }
        if (stepped.state != GOES_ON) {
            throw new IllegalStateException("no run that goes on");
        }
        if (stepped.steps >= MOST_RUN_STEPS) {
            throw new IllegalStateException("the run has all its steps");
        }
        stepped.goOn(input);
        return stepped.answer();
    }

    // ---- levels as they are; nothing from here on changes anything

    public int levels() {
        return levelCount;
    }

    public int at(int level, int cell) throws IndexOutOfBoundsException {
        Level seen = levelOf(level);
        checkCell(cell);
        return seen.grid.kindAt(cell);
    }

    public int start(int level) throws IndexOutOfBoundsException {
        return levelOf(level).start;
    }

    public int edits(int level, boolean isUndo) throws IndexOutOfBoundsException {
        History history = levelOf(level).history;
        return isUndo ? history.done : history.undone;
    }

    public int proof(int level) throws IndexOutOfBoundsException {
        return levelOf(level).proof;
    }

    public int shortest(int level, int most) throws IndexOutOfBoundsException, IllegalArgumentException {
        Level tried = levelOf(level);
        if (most < 0 || most > MOST_ROW_STEPS) {
            throw new IllegalArgumentException("no such number of steps");
        }
        return search.fewestStepsByRows(tried.grid, tried.start, most);
    }

    public int reach(int level) throws IndexOutOfBoundsException {
        Level seen = levelOf(level);
        search.explore(seen.grid, seen.start, false);
        return search.reachedCount();
    }

    public int farthest(int level) throws IndexOutOfBoundsException {
        Level seen = levelOf(level);
        search.explore(seen.grid, seen.start, false);
        return search.farthestReached();
    }

    public int strength(int spring) throws IndexOutOfBoundsException {
        checkSpring(spring);
        return strengths[spring];
    }

    // ---- works as they are

    public int works() {
        return workCount;
    }

    public int author(int work) throws IndexOutOfBoundsException {
        return workOf(work).author;
    }

    public int best(int work) throws IndexOutOfBoundsException {
        return workOf(work).best;
    }

    public int parent(int work) throws IndexOutOfBoundsException {
        Work parent = workOf(work).parent;
        return parent == null ? NONE : parent.number;
    }

    public int line(int work) throws IndexOutOfBoundsException {
        Work sought = workOf(work);
        int count = 0;
        for (int other = 0; other < workCount; other++) {
            if (workOf(other).comesFrom(sought)) {
                count++;
            }
        }
        return count;
    }

    public int stars(int work) throws IndexOutOfBoundsException {
        return workOf(work).starSum();
    }

    public int credit(int person) throws IndexOutOfBoundsException {
        checkPerson(person);
        int sum = 0;
        for (int work = 0; work < workCount; work++) {
            Work counted = workOf(work);
            if (counted.comesFromWorkBy(person)) {
                sum += counted.starSum();
            }
        }
        return sum;
    }

    public int record(int work) throws IndexOutOfBoundsException {
        return workOf(work).record;
    }

    // ---- runs as they are

    public int runState(int person) throws IndexOutOfBoundsException {
        return runOf(person).state;
    }

    public int body(int person) throws IndexOutOfBoundsException {
        Run seen = runOf(person);
        return seen.state == NO_RUN ? NONE : seen.body.cell;
    }

    public int speed(int person) throws IndexOutOfBoundsException {
        return runOf(person).body.speed;
    }

    public int keys(int person) throws IndexOutOfBoundsException {
        return Integer.bitCount(runOf(person).body.taken);
    }

    public int stepsOf(int person) throws IndexOutOfBoundsException {
        return runOf(person).steps;
    }

    // ---- what the calls share

    private static void checkPerson(int person) {
        if (person < 0 || person >= PERSONS) {
            throw new IndexOutOfBoundsException("no such person");
        }
    }

    private static void checkCell(int cell) {
        if (!isCell(cell)) {
            throw new IndexOutOfBoundsException("no such cell");
        }
    }

    private static void checkSpring(int spring) {
        if (spring < 0 || spring >= SPRINGS) {
            throw new IndexOutOfBoundsException("no such spring kind");
        }
    }

    private static void checkNotWithdrawn(Work work) {
        if (work.best < 0) {
            throw new IllegalStateException("the work is withdrawn");
        }
    }

    private Level levelOf(int level) {
        Level found = level >= 0 && level < levels.length ? levels[level] : null;
        if (found == null) {
            throw new IndexOutOfBoundsException("no such level");
        }
        return found;
    }

    private Work workOf(int work) {
        Work found = work >= 0 && work < works.length ? works[work] : null;
        if (found == null) {
            throw new IndexOutOfBoundsException("no such work");
        }
        return found;
    }

    private Run runOf(int person) {
        Run found = person >= 0 && person < runs.length ? runs[person] : null;
        if (found == null) {
            throw new IndexOutOfBoundsException("no such person");
        }
        return found;
    }

    private Level addLevel(int author, Work parent) {
        if (levelCount >= levels.length) {
            throw new IllegalStateException("too many levels");
        }
        Level added = new Level(author, parent);
        levels[levelCount] = added;
        levelCount++;
        return added;
    }

    private void endRunsIfWithdrawn(Work work) {
        if (work.best >= 0) {
            return;
        }
        for (int person = 0; person < PERSONS; person++) {
            Run run = runOf(person);
            if (run.work == work && run.state == GOES_ON) {
                run.state = WITHDRAWN;
            }
        }
    }

    private int voidProofsWith(int springKind) {
        int count = 0;
        for (int number = 0; number < levelCount; number++) {
            Level level = levelOf(number);
            if (level.proof != VOID && level.grid.has(springKind)) {
                level.proof = VOID;
                count++;
            }
        }
        return count;
    }

    private static boolean isCell(int cell) {
        return cell >= 0 && cell < CELLS;
    }

    /** The kinds of all cells; the keys have places of their own, so that a body can hold them as bits. */
    private static final class Grid {
        private final int[] kinds = new int[CELLS];
        private final int[] keyCells = {NONE, NONE, NONE};
        private int allKeys = 0;

        int kindAt(int cell) {
            return cell >= 0 && cell < kinds.length ? kinds[cell] : AIR;
        }

        void put(int cell, int kind) {
            if (!isCell(cell)) {
                return;
            }
            if (kinds[cell] == KEY) {
                changeKey(cell, NONE);
            }
            kinds[cell] = kind;
            if (kind == KEY) {
                changeKey(NONE, cell);
            }
        }

        private void changeKey(int from, int to) {
            for (int place = 0; place < keyCells.length; place++) {
                if (keyCells[place] == from) {
                    keyCells[place] = to;
                    allKeys ^= 1 << place;
                    return;
                }
            }
        }

        void putAllOf(Grid other) {
            for (int cell = 0; cell < CELLS; cell++) {
                put(cell, other.kindAt(cell));
            }
        }

        boolean has(int kind) {
            for (int cell = 0; cell < CELLS; cell++) {
                if (kinds[cell] == kind) {
                    return true;
                }
            }
            return false;
        }

        int keyCount() {
            return Integer.bitCount(allKeys);
        }

        int keyBit(int cell) {
            for (int place = 0; place < keyCells.length; place++) {
                if (keyCells[place] == cell) {
                    return 1 << place;
                }
            }
            return 0;
        }
    }

    /** The remembered edits: first those that can be undone, then those that can be done again. */
    private static final class History {
        private final int[] cells = new int[MOST_EDITS];
        private final int[] kindsBefore = new int[MOST_EDITS];
        private final int[] kindsAfter = new int[MOST_EDITS];
        private int done = 0;
        private int undone = 0;

        void remember(int cell, int before, int after) {
            if (done >= MOST_EDITS) {
                forgetEarliest();
            }
            if (done >= 0 && done < MOST_EDITS) {
                cells[done] = cell;
                kindsBefore[done] = before;
                kindsAfter[done] = after;
                done++;
                undone = 0;
            }
        }

        private void forgetEarliest() {
            for (int edit = 1; edit < MOST_EDITS; edit++) {
                cells[edit - 1] = cells[edit];
                kindsBefore[edit - 1] = kindsBefore[edit];
                kindsAfter[edit - 1] = kindsAfter[edit];
            }
            done = MOST_EDITS - 1;
        }

        void stepBack() {
            done--;
            undone++;
        }

        void stepOn() {
            done++;
            undone--;
        }

        private boolean hasNext() {
            return done >= 0 && done < MOST_EDITS;
        }

        int cellOfNext() {
            return hasNext() ? cells[done] : NONE;
        }

        int kindBeforeNext() {
            return hasNext() ? kindsBefore[done] : AIR;
        }

        int kindAfterNext() {
            return hasNext() ? kindsAfter[done] : AIR;
        }
    }

    private static final class Level {
        private final int author;
        private final Work parent;
        private final Grid grid = new Grid();
        private final History history = new History();
        private int start = FIRST_START;
        private int proof = VOID;

        Level(int author, Work parent) {
            this.author = author;
            this.parent = parent;
        }

        void putAnew(int cell, int kind) {
            grid.put(cell, kind);
            proof = VOID;
        }
    }

    private static final class Work {
        private final int number;
        private final int author;
        private final Work parent;
        private final Grid grid = new Grid();
        private final int start;
        private final int[] given = new int[PERSONS];
        private int best;
        private int record = NONE;

        Work(int number, Level level) {
            this.number = number;
            this.author = level.author;
            this.parent = level.parent;
            this.grid.putAllOf(level.grid);
            this.start = level.start;
            this.best = level.proof;
        }

        int starSum() {
            int sum = 0;
            for (int stars : given) {
                sum += stars;
            }
            return sum;
        }

        boolean comesFrom(Work sought) {
            for (Work work = this; work != null; work = work.parent) {
                if (work == sought) {
                    return true;
                }
            }
            return false;
        }

        boolean comesFromWorkBy(int person) {
            for (Work work = this; work != null; work = work.parent) {
                if (work.author == person) {
                    return true;
                }
            }
            return false;
        }

        void noteWin(int steps) {
            if (record < 0 || steps < record) {
                record = steps;
            }
        }
    }

    /** A person's run, or none as long as the person has begun none. */
    private static final class Run {
        private final Body body;
        private Work work = null;
        private int state = NO_RUN;
        private int steps = 0;

        Run(int[] strengths) {
            body = new Body(strengths);
        }

        void beginOn(Work played) {
            work = played;
            steps = 0;
            body.placeAtStart(played.grid, played.start);
            takeStateOfBody();
        }

        void goOn(int input) {
            if (work == null) {
                return;
            }
            steps++;
            body.move(work.grid, input);
            takeStateOfBody();
        }

        private void takeStateOfBody() {
            state = body.fate;
            if (state == WON && work != null) {
                work.noteWin(steps);
            }
        }

        int answer() {
            if (state == LOST) {
                return -1;
            }
            return state == WON ? -2 : body.cell;
        }
    }

    /** A body by the rule of springs as it is: it shares the row of strengths with the whole workshop. */
    private static final class Body {
        private final int[] strengths;
        private int cell = 0;
        private int speed = 0;
        private int taken = 0;
        private int fate = GOES_ON;

        Body(int[] strengths) {
            this.strengths = strengths;
        }

        void placeAtStart(Grid grid, int start) {
            speed = 0;
            taken = 0;
            fate = GOES_ON;
            comeTo(grid, start);
        }

        /** Only for a body that goes on: the others are in no search's queue. */
        int packed() {
            return (cell << 6) | ((speed + 4) << 3) | taken;
        }

        void unpack(int state) {
            cell = state >> 6;
            speed = ((state >> 3) & 7) - 4;
            taken = state & 7;
            fate = GOES_ON;
        }

        boolean stands(Grid grid) {
            return speed >= 0 && isSolidIn(grid, cell + COLUMNS);
        }

        void move(Grid grid, int input) {
            if (stands(grid)) {
                speed = input >= 3 ? JUMP_SPEED : 0;
            }
            goSideways(grid, input % 3 - 1);
            if (fate == GOES_ON) {
                goUpOrDown(grid);
            }
        }

        private void goSideways(Grid grid, int direction) {
            int column = cell % COLUMNS + direction;
            boolean isInside = column >= 0 && column < COLUMNS;
            if (direction != 0 && isInside && !isSolidIn(grid, cell + direction)) {
                comeTo(grid, cell + direction);
            }
        }

        private void goUpOrDown(Grid grid) {
            int way = speed < 0 ? -COLUMNS : COLUMNS;
            int count = speed < 0 ? -speed : speed;
            for (int gone = 0; gone < count; gone++) {
                if (isSolidIn(grid, cell + way)) {
                    speed = way < 0 ? 0 : -strengthOf(grid.kindAt(cell + way));
                    return;
                }
                comeTo(grid, cell + way);
                if (fate != GOES_ON) {
                    return;
                }
            }
            speed = speed < MOST_SPEED ? speed + 1 : MOST_SPEED;
        }

        /** Above the grid all is solid, and below it is nothing. */
        private boolean isSolidIn(Grid grid, int place) {
            if (place < 0) {
                return true;
            }
            int kind = grid.kindAt(place);
            return kind == WALL || kind >= FIRST_SPRING || kind == DOOR && taken != grid.allKeys;
        }

        private int strengthOf(int kind) {
            int spring = kind - FIRST_SPRING;
            return spring >= 0 && spring < strengths.length ? strengths[spring] : 0;
        }

        private void comeTo(Grid grid, int place) {
            if (!isCell(place)) {
                fate = LOST;
                return;
            }
            cell = place;
            int kind = grid.kindAt(place);
            if (kind == KEY) {
                taken |= grid.keyBit(place);
            } else if (kind == SPIKES) {
                fate = LOST;
            } else if (kind == GOAL) {
                fate = WON;
            }
        }
    }

    /** Searches all that a body can do; its rows are made once and used by every search. */
    private static final class Search {
        private final Body body;
        private final int[] queue = new int[STATES];
        private final int[] seenIn = new int[STATES];
        private final boolean[] reached = new boolean[CELLS];
        private int number = 0;
        private int tail = 0;
        private int won = REFUTED;

        Search(int[] strengths) {
            body = new Body(strengths);
        }

        /** Answers the steps of the shortest run that wins, and leaves in its rows where bodies came to. */
        int explore(Grid grid, int start, boolean endsWithFirstWin) {
            restart();
            body.placeAtStart(grid, start);
            noteBody(0);
            int next = 0;
            for (int steps = 1; steps <= STATES && next < tail; steps++) {
                if (endsWithFirstWin && won >= 0) {
                    return won;
                }
                int end = tail;
                for (int index = next; index < end; index++) {
                    tryInputsFrom(grid, queuedAt(index), steps);
                }
                next = end;
            }
            return won;
        }

        private void restart() {
            number++;
            tail = 0;
            won = REFUTED;
            for (int cell = 0; cell < reached.length; cell++) {
                reached[cell] = false;
            }
        }

        private void tryInputsFrom(Grid grid, int state, int steps) {
            body.unpack(state);
            // A body that does not stand cannot jump: the jumping inputs do the same as the others.
            int inputs = body.stands(grid) ? INPUTS : 3;
            for (int input = 0; input < inputs; input++) {
                body.unpack(state);
                body.move(grid, input);
                noteBody(steps);
            }
        }

        private void noteBody(int steps) {
            if (body.fate == LOST || !isCell(body.cell)) {
                return;
            }
            reached[body.cell] = true;
            if (body.fate == GOES_ON) {
                enqueueNew(body.packed());
            } else if (won < 0) {
                won = steps;
            }
        }

        private void enqueueNew(int state) {
            if (state >= 0 && state < seenIn.length && seenIn[state] != number) {
                seenIn[state] = number;
                enqueue(state);
            }
        }

        private void enqueue(int state) {
            if (tail >= 0 && tail < queue.length) {
                queue[tail] = state;
                tail++;
            }
        }

        private int queuedAt(int index) {
            return index >= 0 && index < queue.length ? queue[index] : 0;
        }

        /** Tries all rows of inputs, merging none that come to the same: a second way beside the search. */
        int fewestStepsByRows(Grid grid, int start, int most) {
            restart();
            body.placeAtStart(grid, start);
            if (body.fate != GOES_ON) {
                return body.fate == WON ? 0 : NONE;
            }
            enqueue(body.packed());
            int next = 0;
            for (int steps = 1; steps <= most; steps++) {
                int end = tail;
                for (int index = next; index < end; index++) {
                    if (winsByOneMore(grid, queuedAt(index), steps < most)) {
                        return steps;
                    }
                }
                next = end;
            }
            return NONE;
        }

        private boolean winsByOneMore(Grid grid, int state, boolean goesOn) {
            for (int input = 0; input < INPUTS; input++) {
                body.unpack(state);
                body.move(grid, input);
                if (body.fate == WON) {
                    return true;
                }
                if (goesOn && body.fate == GOES_ON) {
                    enqueue(body.packed());
                }
            }
            return false;
        }

        int reachedCount() {
            int count = 0;
            for (boolean isReached : reached) {
                if (isReached) {
                    count++;
                }
            }
            return count;
        }

        int farthestReached() {
            for (int column = COLUMNS - 1; column >= 0; column--) {
                for (int row = 0; row < ROWS; row++) {
                    int cell = COLUMNS * row + column;
                    if (isCell(cell) && reached[cell]) {
                        return cell;
                    }
                }
            }
            return NONE;
        }
    }
}
