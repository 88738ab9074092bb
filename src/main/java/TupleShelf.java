import java.util.NoSuchElementException;

/** Eight relations of tuples of small numbers, each tuple with a count. */
public final class TupleShelf {
    private static final int RELATIONS = 8;
    private static final int WIDEST = 3;
    private static final int NUMBERS = 16;
    private static final int NUMBER_BITS = 4;
    private static final int TUPLE_BITS = NUMBER_BITS * WIDEST;
    private static final int TUPLES = 1 << TUPLE_BITS;
    private static final int MOST_IN = 300;

    private static final int ADDED = 0;
    private static final int TAKEN = 1;
    private static final int WHERE_IN = 2;
    private static final int WHERE_NOT_IN = 3;
    private static final int EITHER = 4;
    private static final int LESSER = 5;

    private static final int ABOUT_WIDTH = 0;
    private static final int ABOUT_SIZE = 1;
    private static final int ABOUT_FIRST_NUMBERS = 2;
    private static final int ABOUT_SUM = 3;
    private static final int ABOUT_GREATEST = 4;

    private final Relation[] relations;

    // What a call makes grows here and then changes places with the old relation: the sources stay
    // as they were until the end, a refused call changes nothing, and no call makes new arrays.
    private Relation spare;

    // For each number x the set of numbers that can be reached from it, as bits.
    private final int[] reached;

    public TupleShelf() {
        relations = new Relation[RELATIONS];
        for (int r = 0; r < RELATIONS; r++) {
            relations[r] = new Relation();
        }
        spare = new Relation();
        reached = new int[NUMBERS];
    }

    public int width(int r, int w) throws NoSuchElementException, IllegalArgumentException {
        Relation relation = relationOf(r);
        refuseUnless(w >= 1 && w <= WIDEST);
        int before = relation.size;
        relation.startAnew(w);
        return before;
    }

    public int put(int r, int t, int by)
            throws NoSuchElementException, IllegalArgumentException, IllegalStateException {
        Relation relation = relationOf(r);
        refuseUnless(isTuple(t, relation.width));
        refuseIfFull(relation.raise(t, by));
        return relation.countOf(t);
    }

    public int count(int r, int t) throws NoSuchElementException, IllegalArgumentException {
        Relation relation = relationOf(r);
        refuseUnless(isTuple(t, relation.width));
        return relation.countOf(t);
    }

    public int at(int r, int k) throws NoSuchElementException {
        Relation relation = relationOf(r);
        if (k < 0 || k >= relation.size) {
            throw new NoSuchElementException();
        }
        return relation.tuples[k];
    }

    public int join(int to, int a, int b, int on)
            throws NoSuchElementException, IllegalArgumentException, IllegalStateException {
        mustBeRelation(to);
        Relation left = relationOf(a);
        Relation right = relationOf(b);
        refuseUnless(on >= 0 && on <= left.width && on <= right.width);
        int wide = left.width + right.width - on;
        refuseUnless(wide <= WIDEST);
        spare.startAnew(wide);
        boolean fits = true;
        for (int i = 0; i < left.size && fits; i++) {
            fits = joinOne(left, i, right, on);
        }
        refuseIfFull(fits);
        return keepSpareAs(to);
    }

    public int narrow(int to, int a, int mask) throws NoSuchElementException, IllegalArgumentException {
        mustBeRelation(to);
        Relation source = relationOf(a);
        refuseUnless(mask > 0 && mask < 1 << source.width);
        spare.startAnew(Integer.bitCount(mask));
        for (int i = 0; i < source.size; i++) {
            spare.raise(narrowed(source.tuples[i], mask), source.counts[i]);
        }
        return keepSpareAs(to);
    }

    public int pick(int to, int a, int place, int v) throws NoSuchElementException, IllegalArgumentException {
        mustBeRelation(to);
        Relation source = relationOf(a);
        refuseUnless(place >= 0 && place < source.width);
        refuseUnless(v >= 0 && v < NUMBERS);
        spare.startAnew(source.width);
        for (int i = 0; i < source.size; i++) {
            if (numberAt(source.tuples[i], place) == v) {
                spare.raise(source.tuples[i], source.counts[i]);
            }
        }
        return keepSpareAs(to);
    }

    public int alter(int to, int op, int a, int b)
            throws NoSuchElementException, IllegalArgumentException, IllegalStateException {
        mustBeRelation(to);
        Relation left = relationOf(a);
        Relation right = relationOf(b);
        refuseUnless(op >= ADDED && op <= LESSER);
        refuseUnless(left.width == right.width);
        spare.startAnew(left.width);
        boolean fits = true;
        for (int i = 0; i < left.size && fits; i++) {
            int tuple = left.tuples[i];
            fits = spare.raise(tuple, altered(op, left.counts[i], right.countOf(tuple)));
        }
        for (int i = 0; i < right.size && fits; i++) {
            int tuple = right.tuples[i];
            if (left.countOf(tuple) == 0) {
                fits = spare.raise(tuple, altered(op, 0, right.counts[i]));
            }
        }
        refuseIfFull(fits);
        return keepSpareAs(to);
    }

    public int reach(int to, int a) throws NoSuchElementException, IllegalArgumentException {
        mustBeRelation(to);
        Relation steps = relationOf(a);
        refuseUnless(steps.width == 2);
        takeSteps(steps);
        followSteps();
        spare.startAnew(2);
        for (int x = 0; x < NUMBERS; x++) {
            for (int y = 0; y < NUMBERS; y++) {
                if (isReached(x, y)) {
                    spare.raise(withNumber(x, 0) | withNumber(y, 1), 1);
                }
            }
        }
        return keepSpareAs(to);
    }

    public int turn(int to, int a) throws NoSuchElementException {
        mustBeRelation(to);
        Relation source = relationOf(a);
        spare.startAnew(source.width);
        for (int i = 0; i < source.size; i++) {
            spare.raise(turned(source.tuples[i], source.width), source.counts[i]);
        }
        return keepSpareAs(to);
    }

    public long about(int r, int what) throws NoSuchElementException, IllegalArgumentException {
        Relation relation = relationOf(r);
        refuseUnless(what >= ABOUT_WIDTH && what <= ABOUT_GREATEST);
        switch (what) {
            case ABOUT_WIDTH:
                return relation.width;
            case ABOUT_SIZE:
                return relation.size;
            case ABOUT_FIRST_NUMBERS:
                return relation.firstNumbers();
            case ABOUT_SUM:
                return relation.sum();
            default:
                return relation.greatest();
        }
    }

    public boolean same(int a, int b) throws NoSuchElementException {
        Relation left = relationOf(a);
        Relation right = relationOf(b);
        return left.holdsWhat(right);
    }

    private static void mustBeRelation(int r) {
        if (r < 0 || r >= RELATIONS) {
            throw new NoSuchElementException();
        }
    }

    private static void refuseUnless(boolean allowed) {
        if (!allowed) {
            throw new IllegalArgumentException();
        }
    }

    private static void refuseIfFull(boolean fits) {
        if (!fits) {
            throw new IllegalStateException();
        }
    }

    private Relation relationOf(int r) {
        mustBeRelation(r);
        return relations[r];
    }

    private int keepSpareAs(int to) {
        Relation made = spare;
        spare = relations[to];
        relations[to] = made;
        return made.size;
    }

    // Two different pairs never join to the same tuple, so once there is no room there will be none.
    private boolean joinOne(Relation left, int i, Relation right, int on) {
        int tuple = left.tuples[i];
        int shared = lastNumbers(tuple, left.width, on);
        int first = right.placeOf(shared << bitsBehind(on));
        int end = right.placeOf((shared + 1) << bitsBehind(on));
        int offset = NUMBER_BITS * (left.width - on);
        boolean fits = true;
        for (int j = first; j < end && fits; j++) {
            fits = spare.raise(tuple | right.tuples[j] >> offset, left.counts[i] * right.counts[j]);
        }
        return fits;
    }

    private void takeSteps(Relation steps) {
        for (int x = 0; x < NUMBERS; x++) {
            reached[x] = 0;
        }
        for (int i = 0; i < steps.size; i++) {
            int tuple = steps.tuples[i];
            reached[numberAt(tuple, 0)] |= 1 << numberAt(tuple, 1);
        }
    }

    // The outer loop must be the one over the number between: then one round is enough.
    private void followSteps() {
        for (int between = 0; between < NUMBERS; between++) {
            for (int x = 0; x < NUMBERS; x++) {
                if (isReached(x, between)) {
                    reached[x] |= reached[between];
                }
            }
        }
    }

    private boolean isReached(int x, int y) {
        return (reached[x] >> y & 1) == 1;
    }

    private static int altered(int op, int left, int right) {
        switch (op) {
            case ADDED:
                return left + right;
            case TAKEN:
                return left - right;
            case WHERE_IN:
                return right != 0 ? left : 0;
            case WHERE_NOT_IN:
                return right == 0 ? left : 0;
            case EITHER:
                return left != 0 || right != 0 ? 1 : 0;
            default:
                return left != 0 && right != 0 ? Math.min(left, right) : 0;
        }
    }

    private static int bitsBehind(int numbers) {
        return TUPLE_BITS - NUMBER_BITS * numbers;
    }

    private static boolean isTuple(int t, int width) {
        return t >= 0 && t < TUPLES && (t & (1 << bitsBehind(width)) - 1) == 0;
    }

    private static int numberAt(int tuple, int place) {
        return tuple >> bitsBehind(place + 1) & NUMBERS - 1;
    }

    private static int withNumber(int number, int place) {
        return number << bitsBehind(place + 1);
    }

    private static int lastNumbers(int tuple, int width, int howMany) {
        return tuple >> bitsBehind(width) & (1 << NUMBER_BITS * howMany) - 1;
    }

    private static int narrowed(int tuple, int mask) {
        int result = 0;
        int next = 0;
        for (int place = 0; place < WIDEST; place++) {
            if ((mask >> place & 1) == 1) {
                result |= withNumber(numberAt(tuple, place), next);
                next++;
            }
        }
        return result;
    }

    private static int turned(int tuple, int width) {
        int result = 0;
        for (int place = 0; place < width; place++) {
            result |= withNumber(numberAt(tuple, place), width - 1 - place);
        }
        return result;
    }

    /** The tuples that are in, in order, each with its count, which is never 0. */
    private static final class Relation {
        // The strides of a search, each half the one before, add up to 511: enough for MOST_IN places.
        private static final int LONGEST_STRIDE = 256;

        final int[] tuples;
        final int[] counts;
        int width;
        int size;

        Relation() {
            tuples = new int[MOST_IN];
            counts = new int[MOST_IN];
            width = 1;
            size = 0;
        }

        void startAnew(int newWidth) {
            width = newWidth;
            size = 0;
        }

        /** The place of the first tuple that is not less than the one given; size if there is none. */
        int placeOf(int tuple) {
            int less = 0;
            for (int stride = LONGEST_STRIDE; stride > 0; stride /= 2) {
                if (less + stride <= size && tuples[less + stride - 1] < tuple) {
                    less += stride;
                }
            }
            return less;
        }

        int countOf(int tuple) {
            int place = placeOf(tuple);
            return holdsAt(place, tuple) ? counts[place] : 0;
        }

        /** Whether there was room; without it nothing changes. */
        boolean raise(int tuple, int by) {
            int place = placeOf(tuple);
            if (holdsAt(place, tuple)) {
                raiseAt(place, by);
                return true;
            }
            if (by == 0) {
                return true;
            }
            if (size >= MOST_IN) {
                return false;
            }
            insertAt(place, tuple, by);
            return true;
        }

        int firstNumbers() {
            int seen = 0;
            for (int i = 0; i < size; i++) {
                seen |= 1 << numberAt(tuples[i], 0);
            }
            return Integer.bitCount(seen);
        }

        long sum() {
            long total = 0;
            for (int i = 0; i < size; i++) {
                total += counts[i];
            }
            return total;
        }

        int greatest() {
            if (size == 0) {
                return 0;
            }
            int most = counts[0];
            for (int i = 1; i < size; i++) {
                most = Math.max(most, counts[i]);
            }
            return most;
        }

        boolean holdsWhat(Relation other) {
            if (width != other.width || size != other.size) {
                return false;
            }
            for (int i = 0; i < size; i++) {
                if (tuples[i] != other.tuples[i] || counts[i] != other.counts[i]) {
                    return false;
                }
            }
            return true;
        }

        private boolean holdsAt(int place, int tuple) {
            return place < size && tuples[place] == tuple;
        }

        private void raiseAt(int place, int by) {
            counts[place] += by;
            if (counts[place] == 0) {
                removeAt(place);
            }
        }

        private void insertAt(int place, int tuple, int count) {
            System.arraycopy(tuples, place, tuples, place + 1, size - place);
            System.arraycopy(counts, place, counts, place + 1, size - place);
            tuples[place] = tuple;
            counts[place] = count;
            size++;
        }

        private void removeAt(int place) {
            size--;
            System.arraycopy(tuples, place + 1, tuples, place, size - place);
            System.arraycopy(counts, place + 1, counts, place, size - place);
        }
    }
}
