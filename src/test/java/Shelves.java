/** Ways of filling and reading a shelf that several tests use. */
final class Shelves {
    static final int RELATIONS = 8;
    static final int MOST_IN = 300;

    private Shelves() {
    }

    /** Pairs: a tuple, then its count. */
    static void fill(TupleShelf shelf, int r, int width, int... content) {
        shelf.width(r, width);
        for (int i = 0; i < content.length; i += 2) {
            shelf.put(r, content[i], content[i + 1]);
        }
    }

    static TupleShelf with(int r, int width, int... content) {
        TupleShelf shelf = new TupleShelf();
        fill(shelf, r, width, content);
        return shelf;
    }

    /** Puts in the tuples first, first + 1, .. of width 3, so many as howMany, each with the count 1. */
    static void fillRow(TupleShelf shelf, int r, int first, int howMany) {
        shelf.width(r, 3);
        for (int t = first; t < first + howMany; t++) {
            shelf.put(r, t, 1);
        }
    }

    static int[] tuples(TupleShelf shelf, int r) {
        int[] tuples = new int[(int) shelf.about(r, 1)];
        for (int k = 0; k < tuples.length; k++) {
            tuples[k] = shelf.at(r, k);
        }
        return tuples;
    }

    static int[] content(TupleShelf shelf, int r) {
        int[] tuples = tuples(shelf, r);
        int[] content = new int[2 * tuples.length];
        for (int k = 0; k < tuples.length; k++) {
            content[2 * k] = tuples[k];
            content[2 * k + 1] = shelf.count(r, tuples[k]);
        }
        return content;
    }
}
