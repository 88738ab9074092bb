import java.util.Arrays;

/** Ways of filling and reading a shelf that several tests use. */
final class Shelves {
    static final int RELATIONS = 8;
    static final int MOST_IN = 300;
    static final int MIN = Integer.MIN_VALUE;
    static final int MAX = Integer.MAX_VALUE;
    static final int[] NO_RELATIONS = {-1, 8, MIN, MAX};

    private Shelves() {
    }

    /** Pairs: a tuple, then its count. */
    static void fill(TupleShelf shelf, int r, int width, int... content) {
        shelf.width(r, width);
        for (int i = 0; i < content.length; i += 2) {
            shelf.put(r, content[i], content[i + 1]);
        }
    }

    static TupleShelf with(int r, int width, int... content) {
        TupleShelf shelf = new TupleShelf();
        fill(shelf, r, width, content);
        return shelf;
    }

    /** Puts in the tuples first, first + 1, .. of width 3, so many as howMany, each with the count 1. */
    static void fillRow(TupleShelf shelf, int r, int first, int howMany) {
        shelf.width(r, 3);
        for (int t = first; t < first + howMany; t++) {
            shelf.put(r, t, 1);
        }
    }

    /**
     * Puts in (x, second, y) of width 3 for each x below firsts and each y below thirds, each with the
     * count 1, by a join: so many puts would leave too few of the 512 calls. Relations 6 and 7 are
     * empty then.
     */
    static void fillGrid(TupleShelf shelf, int r, int firsts, int second, int thirds) {
        shelf.width(6, 1);
        for (int x = 0; x < firsts; x++) {
            shelf.put(6, x << 8, 1);
        }
        shelf.width(7, 2);
        for (int y = 0; y < thirds; y++) {
            shelf.put(7, second << 8 | y << 4, 1);
        }
        shelf.join(r, 6, 7, 0);
        shelf.width(6, 1);
        shelf.width(7, 1);
    }

    static void copy(TupleShelf shelf, int to, int from) {
        shelf.alter(to, 2, from, from);
    }

    static int[] tuples(TupleShelf shelf, int r) {
        int[] tuples = new int[(int) shelf.about(r, 1)];
        for (int k = 0; k < tuples.length; k++) {
            tuples[k] = shelf.at(r, k);
        }
        return tuples;
    }

    static int[] content(TupleShelf shelf, int r) {
        int[] tuples = tuples(shelf, r);
        int[] content = new int[2 * tuples.length];
        for (int k = 0; k < tuples.length; k++) {
            content[2 * k] = tuples[k];
            content[2 * k + 1] = shelf.count(r, tuples[k]);
        }
        return content;
    }

    static String told(TupleShelf shelf, int r) {
        return "width " + shelf.about(r, 0) + " " + Arrays.toString(content(shelf, r));
    }

    static String toldWhole(TupleShelf shelf) {
        StringBuilder all = new StringBuilder();
        for (int r = 0; r < RELATIONS; r++) {
            all.append(r).append(": ").append(told(shelf, r)).append("; ");
        }
        return all.toString();
    }
}
