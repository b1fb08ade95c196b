import com.sun.management.ThreadMXBean;
import java.lang.management.ManagementFactory;

/** The 512 calls for which an object is used: the last one answers as an early one does, and none makes much. */
final class LifeTests {
    private static final int CALLS = 512;
    private static final int FIRST_CALLS = 9;

    private static final String[] BUSY = {
        "............",
        "............",
        "............",
        "......k...k.",
        "...####..#..",
        "S.......k...",
        "###.....D..G",
        "#0#0#####0##",
    };

    private LifeTests() {
    }

    static void all() {
        Edge.whatItIs("An object is used for at most 512 calls after it has been made");
        for (Calls.Named named : Calls.ALL) {
            lastCall(named);
        }
        dearestCalls();
    }

    private static void lastCall(Calls.Named named) {
        int[] numbers = new int[named.kinds().length()];
        for (int place = 0; place < numbers.length; place++) {
            numbers[place] = numberFor(named.kinds().charAt(place));
        }
        LedgeLevels x = begun();
        String early = Calls.answer(x, named, numbers);
        LedgeLevels old = begun();
        for (int call = FIRST_CALLS; call < CALLS - 1; call++) {
            changeNothing(old, call);
        }
        Check.due("the 512th call, " + named.with(numbers), early, Calls.answer(old, named, numbers));
        Check.due("all behind " + named.with(numbers), Seen.all(x), Seen.all(old));
    }

    private static int numberFor(char kind) {
        return switch (kind) {
            case 'P' -> 5;
            case 'C' -> 77;
            case 'k', 'i', 'm' -> 2;
            case 's', 'f' -> 3;
            default -> 0;
        };
    }

    private static LedgeLevels begun() {
        LedgeLevels x = new LedgeLevels();
        x.begin(0);
        x.set(0, 75, 5);
        x.set(0, 74, 2);
        x.set(0, 95, 6);
        x.undo(0);
        x.prove(0);
        x.offer(0);
        x.run(5, 0);
        x.star(0, 5, 4);
        return x;
    }

    /** Calls that do once more what stands already. */
    private static void changeNothing(LedgeLevels x, int call) {
        switch (call % 7) {
            case 0 -> x.prove(0);
            case 1 -> x.run(5, 0);
            case 2 -> x.star(0, 5, 4);
            case 3 -> x.reach(0);
            case 4 -> x.farthest(0);
            case 5 -> x.setSpring(2, 4);
            default -> x.shortest(0, 2);
        }
    }

    /** All calls of a run share a room, so that none may make rows of its own. */
    private static void dearestCalls() {
        ThreadMXBean threads = (ThreadMXBean) ManagementFactory.getThreadMXBean();
        fillAndChangeSprings();
        long before = threads.getCurrentThreadAllocatedBytes();
        fillAndChangeSprings();
        long bytes = threads.getCurrentThreadAllocatedBytes() - before;
        Check.holds("an object and its dearest calls take " + bytes + " bytes", bytes < 1_000_000);
    }

    private static void fillAndChangeSprings() {
        LedgeLevels x = new LedgeLevels();
        int level = Draw.level(x, 0, BUSY);
        Check.holds("the busy level is refuted", x.prove(level) > 0);
        for (int work = 0; work < 20; work++) {
            x.offer(level);
        }
        for (int copied = 1; copied < 12; copied++) {
            x.copy(copied, 1);
        }
        for (int call = 0; call < 256; call++) {
            x.setSpring(0, 1 + call % 4);
            x.shortest(call % 12, 5);
        }
    }
}
