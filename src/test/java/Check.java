/**
 * Compares answers with what is due, prints what is wrong, and ends the test. What README.md's
 * example asks of it is public: ReadmeTest loads that with a loader of its own.
 */
public final class Check {
    private static int wrong = 0;
    private static int asked = 0;

    public interface Call {
        long answer();
    }

    private Check() {
    }

    public static void due(String what, long got, long want) {
        asked++;
        if (got != want) {
            wrong++;
            System.out.println(what + " answered " + got + ", due is " + want);
        }
    }

    public static void due(String what, boolean got, boolean want) {
        due(what, got ? 1 : 0, want ? 1 : 0);
    }

    static void due(String what, String got, String want) {
        asked++;
        if (!got.equals(want)) {
            wrong++;
            System.out.println(what + " answered [" + got + "], due is [" + want + "]");
        }
    }

    /** The exception must be of that very class: the machine throws classes below it. */
    public static void throwsOut(String what, Call call) {
        dueThrow(what, call, IndexOutOfBoundsException.class);
    }

    public static void throwsArgument(String what, Call call) {
        dueThrow(what, call, IllegalArgumentException.class);
    }

    public static void throwsState(String what, Call call) {
        dueThrow(what, call, IllegalStateException.class);
    }

    private static void dueThrow(String what, Call call, Class<?> want) {
        asked++;
        String got;
        try {
            got = "answered " + call.answer();
        } catch (RuntimeException thrown) {
            if (thrown.getClass() == want) {
                return;
            }
            got = "threw " + thrown;
        }
        wrong++;
        System.out.println(what + " " + got + ", due is " + want.getSimpleName());
    }

    /** The conflicts that are listed, as a text of kind:key:column parts. */
    static void dueList(String what, TableSplice x, String want) {
        StringBuilder got = new StringBuilder();
        for (int place = 0; place < x.conflicts(); place++) {
            got.append(place == 0 ? "" : " ").append(x.kindOf(place)).append(':')
                    .append(x.keyOf(place)).append(':').append(x.columnOf(place));
        }
        asked++;
        if (!want.contentEquals(got)) {
            wrong++;
            System.out.println(what + " lists [" + got + "], due is [" + want + "]");
        }
    }

    static int askedSoFar() {
        return asked;
    }

    static int wrongSoFar() {
        return wrong;
    }

    static void end() {
        System.out.println(asked + " answers, " + wrong + " wrong");
        if (wrong != 0 || asked == 0) {
            System.exit(1);
        }
    }
}
