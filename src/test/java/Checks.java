import java.util.Arrays;
import java.util.NoSuchElementException;

/** Counts the answers that are not as due; a test ends with finish(). */
final class Checks {
    static final Class<NoSuchElementException> NO_SUCH = NoSuchElementException.class;
    static final Class<IllegalArgumentException> ARGUMENT = IllegalArgumentException.class;
    static final Class<IllegalStateException> STATE = IllegalStateException.class;

    interface Call {
        void run();
    }

    private static final String NOTHING = "nothing";

    private int wrong = 0;
    private int made = 0;
    private String about = "";

    void topic(String text) {
        about = text;
    }

    /** One test by itself: what it throws is a wrong answer of its own and leaves the others to run. */
    void test(String text, Call body) {
        topic(text);
        try {
            body.run();
        } catch (RuntimeException e) {
            note("a call that should not throw", false, "an answer", e + " at " + placeIn(e));
        }
    }

    // The frames of the class and of the helpers stand above that of the test.
    private static String placeIn(RuntimeException e) {
        for (StackTraceElement frame : e.getStackTrace()) {
            if (frame.getClassName().endsWith("Test")) {
                return frame.getFileName() + ":" + frame.getLineNumber();
            }
        }
        return "a place unknown";
    }

    void due(String what, long want, long got) {
        note(what, want == got, want, got);
    }

    void due(String what, boolean want, boolean got) {
        note(what, want == got, want, got);
    }

    void dueTuples(String what, TupleShelf shelf, int r, int... want) {
        int[] got = Shelves.tuples(shelf, r);
        note(what, Arrays.equals(want, got), Arrays.toString(want), Arrays.toString(got));
    }

    /** Pairs: a tuple, then its count. */
    void dueContent(String what, TupleShelf shelf, int r, int... want) {
        int[] got = Shelves.content(shelf, r);
        note(what, Arrays.equals(want, got), Arrays.toString(want), Arrays.toString(got));
    }

    void due(String what, String want, String got) {
        note(what, want.equals(got), want, got);
    }

    void dueThrow(String what, Class<? extends RuntimeException> want, Call call) {
        due(what, want.getName(), thrown(call));
    }

    void dueNoThrow(String what, Call call) {
        due(what, NOTHING, thrown(call));
    }

    private static String thrown(Call call) {
        try {
            call.run();
        } catch (RuntimeException e) {
            return e.getClass().getName();
        }
        return NOTHING;
    }

    private void note(String what, boolean right, Object want, Object got) {
        made++;
        if (!right) {
            wrong++;
            System.out.println(about + ": " + what + ": got " + got + ", due is " + want);
        }
    }

    void finish() {
        System.out.println(made + " checks, " + wrong + " wrong");
        if (wrong != 0 || made == 0) {
            System.exit(1);
        }
    }
}
