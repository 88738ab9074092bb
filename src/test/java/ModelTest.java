import java.util.Arrays;

/** Runs of as many calls as an object is promised for, each answer compared with the model's. */
public final class ModelTest {
    private static final int RUNS = 120;
    private static final int CALLS = 512;
    private static final int FIRST_PUTS = 60;
    private static final int ROUND = 64;
    private static final int BROAD_CALLS = 18;
    // How often each call is made; put comes more often, or relations would be too empty to join.
    private static final String[] CALLS_BY_SHARE = {"width", "put", "put", "put", "put", "put", "put", "count",
        "at", "at", "join", "join", "join", "narrow", "pick", "alter", "alter", "alter", "reach", "turn",
        "about", "about", "same"};
    private static final int[] COUNTS = {1, 1, 1, 2, -1, -1, 3, 0, 1 << 16, -(1 << 16), 1 << 31, Integer.MAX_VALUE};
    private static final int[] ODD = {-1, 3, 4, 5, 6, 8, 16, 17, 4096, -256, Integer.MIN_VALUE, Integer.MAX_VALUE};

    private final Checks checks = new Checks();
    // A fixed start: the same runs each time.
    private long seed = 20261115L;
    // How many of the relations and of the numbers a run uses, so that they meet.
    private int relations;
    private int numbers;
    private int full = 0;

    public static void main(String[] args) {
        ModelTest test = new ModelTest();
        for (int run = 0; run < RUNS; run++) {
            test.run(run);
        }
        test.checks.topic("all runs");
        test.checks.due("the limit of 300 was met often", true, test.full >= 50);
        test.checks.finish();
    }

    private void run(int run) {
        TupleShelf shelf = new TupleShelf();
        ShelfModel model = new ShelfModel();
        relations = 2 + below(7);
        numbers = 2 + below(15);
        for (int call = 0; call < CALLS; call++) {
            int round = call % ROUND;
            boolean broad = run % 2 == 0 && round < BROAD_CALLS;
            String name = broad ? broadName(round) : name(call);
            int[] arguments = broad ? broadArguments(round) : arguments(name, model);
            String want = answer(model, null, name, arguments);
            String got = answer(null, shelf, name, arguments);
            full += want.equals("IllegalStateException") ? 1 : 0;
            checks.topic("run " + run + " call " + call + " " + name + Arrays.toString(arguments));
            checks.due("answer " + got + " is " + want, true, got.equals(want));
        }
    }

    private String name(int call) {
        if (call < relations) {
            return "width";
        }
        return call < FIRST_PUTS ? "put" : CALLS_BY_SHARE[below(CALLS_BY_SHARE.length)];
    }

    // Half of the runs get all numbers and all pairs again and again, or would hardly meet the limit.
    private static String broadName(int round) {
        return round == 0 ? "width" : round < BROAD_CALLS - 1 ? "put" : "join";
    }

    private static int[] broadArguments(int round) {
        if (round == 0) {
            return new int[] {0, 1};
        }
        return round < BROAD_CALLS - 1 ? new int[] {0, round - 1 << 8, 1 + round % 3} : new int[] {1, 0, 0, 0};
    }

    private int below(int bound) {
        seed = seed * 6364136223846793005L + 1442695040888963407L;
        return (int) ((seed >>> 33) % bound);
    }

    private int oneOf(int[] all) {
        return all[below(all.length)];
    }

    private int oddOr(int usual) {
        return below(40) == 0 ? oneOf(ODD) : usual;
    }

    private int relation() {
        return oddOr(below(relations));
    }

    private int widthOf(ShelfModel model, int r) {
        return r >= 0 && r < Shelves.RELATIONS ? (int) model.about(r, 0) : 1;
    }

    private int tuple(ShelfModel model, int r) {
        int tuple = below(numbers) << 8 | below(numbers) << 4 | below(numbers);
        return oddOr(tuple & -1 << 4 * (3 - widthOf(model, r)));
    }

    // One more place than there is, now and then, so that at is tried behind the last one.
    private int place(ShelfModel model, int r) {
        int size = r >= 0 && r < Shelves.RELATIONS ? (int) model.about(r, 1) : 0;
        return oddOr(below(size + 1));
    }

    // A partner of the same width where there is one, or alter would mostly be refused.
    private int partner(ShelfModel model, int a) {
        int b = below(relations);
        for (int tries = 0; tries < 4 && widthOf(model, b) != widthOf(model, a); tries++) {
            b = below(relations);
        }
        return oddOr(b);
    }

    private int[] arguments(String name, ShelfModel model) {
        int r = relation();
        int a = relation();
        switch (name) {
            case "width":
                return new int[] {r, oddOr(1 + below(3))};
            case "put":
                return new int[] {r, tuple(model, r), oneOf(COUNTS)};
            case "count":
                return new int[] {r, tuple(model, r)};
            case "at":
                return new int[] {r, place(model, r)};
            case "join":
                return new int[] {r, a, relation(), oddOr(below(3))};
            case "narrow":
                return new int[] {r, a, oddOr(1 + below((1 << widthOf(model, a)) - 1))};
            case "pick":
                return new int[] {r, a, oddOr(below(widthOf(model, a))), oddOr(below(numbers))};
            case "alter":
                return new int[] {r, oddOr(below(6)), a, partner(model, a)};
            case "about":
                return new int[] {r, oddOr(below(5))};
            default:
                return new int[] {r, a};
        }
    }

    /** What one of the two answers, the other being null, or the name of what it throws. */
    private static String answer(ShelfModel model, TupleShelf shelf, String name, int[] arguments) {
        try {
            return String.valueOf(model != null ? ofModel(model, name, arguments) : ofShelf(shelf, name, arguments));
        } catch (RuntimeException e) {
            return e.getClass().getSimpleName();
        }
    }

    private static long ofModel(ShelfModel m, String name, int[] n) {
        switch (name) {
            case "width": return m.width(n[0], n[1]);
            case "put": return m.put(n[0], n[1], n[2]);
            case "count": return m.count(n[0], n[1]);
            case "at": return m.at(n[0], n[1]);
            case "join": return m.join(n[0], n[1], n[2], n[3]);
            case "narrow": return m.narrow(n[0], n[1], n[2]);
            case "pick": return m.pick(n[0], n[1], n[2], n[3]);
            case "alter": return m.alter(n[0], n[1], n[2], n[3]);
            case "reach": return m.reach(n[0], n[1]);
            case "turn": return m.turn(n[0], n[1]);
            case "about": return m.about(n[0], n[1]);
            default: return m.same(n[0], n[1]) ? 1 : 0;
        }
    }

    private static long ofShelf(TupleShelf x, String name, int[] n) {
        switch (name) {
            case "width": return x.width(n[0], n[1]);
            case "put": return x.put(n[0], n[1], n[2]);
            case "count": return x.count(n[0], n[1]);
            case "at": return x.at(n[0], n[1]);
            case "join": return x.join(n[0], n[1], n[2], n[3]);
            case "narrow": return x.narrow(n[0], n[1], n[2]);
            case "pick": return x.pick(n[0], n[1], n[2], n[3]);
            case "alter": return x.alter(n[0], n[1], n[2], n[3]);
            case "reach": return x.reach(n[0], n[1]);
            case "turn": return x.turn(n[0], n[1]);
            case "about": return x.about(n[0], n[1]);
            default: return x.same(n[0], n[1]) ? 1 : 0;
        }
    }
}
