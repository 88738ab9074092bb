import java.util.Arrays;

/** Counts the answers that are not as due; a test ends with finish(). */
final class Checks {
    interface Call {
        void run();
    }

    private int wrong = 0;
    private int made = 0;
    private String about = "";

    void topic(String text) {
        about = text;
    }

    void due(String what, long want, long got) {
        note(what, want == got, want, got);
    }

    void due(String what, boolean want, boolean got) {
        note(what, want == got, want, got);
    }

    void dueTuples(String what, TupleShelf shelf, int r, int... want) {
        int[] got = Shelves.tuples(shelf, r);
        note(what, Arrays.equals(want, got), Arrays.toString(want), Arrays.toString(got));
    }

    /** Pairs: a tuple, then its count. */
    void dueContent(String what, TupleShelf shelf, int r, int... want) {
        int[] got = Shelves.content(shelf, r);
        note(what, Arrays.equals(want, got), Arrays.toString(want), Arrays.toString(got));
    }

    void dueThrow(String what, Class<? extends RuntimeException> want, Call call) {
        String got = "nothing";
        try {
            call.run();
        } catch (RuntimeException e) {
            got = e.getClass().getName();
        }
        note(what, want.getName().equals(got), want.getName(), got);
    }

    private void note(String what, boolean right, Object want, Object got) {
        made++;
        if (!right) {
            wrong++;
            System.out.println(about + ": " + what + ": got " + got + ", due is " + want);
        }
    }

    void finish() {
        System.out.println(made + " checks, " + wrong + " wrong");
        if (wrong != 0 || made == 0) {
            System.exit(1);
        }
    }
}
