/** Counts what was checked and prints what is not as due. */
final class Check {
    private static int checked = 0;
    private static int wrong = 0;
    private static String part = "";

    private Check() {
    }

    static void begin(String name) {
        part = name;
    }

    static void due(String what, long want, long got) {
        checked++;
        if (want != got) {
            tell(what + " answered " + got + ", due is " + want);
        }
    }

    static void due(String what, String want, String got) {
        checked++;
        if (!want.equals(got)) {
            tell(what + " answered " + got + ", due is " + want);
        }
    }

    static void holds(String what, boolean isSo) {
        checked++;
        if (!isSo) {
            tell(what);
        }
    }

    static void outOfBounds(LedgeLevels x, String what, Runnable call) {
        refused(x, what, IndexOutOfBoundsException.class, call);
    }

    static void badArgument(LedgeLevels x, String what, Runnable call) {
        refused(x, what, IllegalArgumentException.class, call);
    }

    static void badState(LedgeLevels x, String what, Runnable call) {
        refused(x, what, IllegalStateException.class, call);
    }

    /** The call must throw just this, and change nothing that can be asked. */
    private static void refused(LedgeLevels x, String what, Class<?> want, Runnable call) {
        checked++;
        String before = Seen.all(x);
        Class<?> got = null;
        try {
            call.run();
        } catch (RuntimeException e) {
            got = e.getClass();
        }
        if (got != want) {
            tell(what + " threw " + got + ", due is " + want);
        }
        if (!before.equals(Seen.all(x))) {
            tell(what + " changed something, though it threw");
        }
    }

    private static void tell(String line) {
        wrong++;
        System.out.println(part + ": " + line);
    }

    static boolean allAsDue() {
        System.out.println(checked + " checks, " + wrong + " not as due");
        return wrong == 0;
    }
}
