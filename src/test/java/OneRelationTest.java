import java.util.stream.IntStream;

/** The boundary cases that promises 1 to 5, 12 and 13 name, a test for each. */
public final class OneRelationTest {
    private static final int MIN = Shelves.MIN;
    private static final int MAX = Shelves.MAX;
    // The tuples of a width are the multiples of its step, from 0 to below 4096.
    private static final int[] STEP = {0, 256, 16, 1};

    private static final Checks checks = new Checks();

    public static void main(String[] args) {
        checks.test("1: All RELATIONS have WIDTH 1", OneRelationTest::newOnesHaveWidth1);
        checks.test("1: and nothing IN", OneRelationTest::newOnesHaveNothingIn);
        checks.test("2: RELATION r has another WIDTH", OneRelationTest::anotherWidth);
        checks.test("2: and nothing IN", OneRelationTest::nothingInThen);
        checks.test("2: how many were IN", OneRelationTest::howManyWereIn);
        checks.test("2: IllegalArgumentException: no WIDTH", OneRelationTest::noWidth);
        checks.test("3: The COUNT of TUPLE t is by more", OneRelationTest::byMore);
        checks.test("3: the COUNT then", OneRelationTest::theCountThen);
        checks.test("3: IllegalArgumentException: t is no TUPLE of the WIDTH", OneRelationTest::putOfNoTuple);
        checks.test("3: IllegalStateException: more than 300 would be IN", OneRelationTest::putOfThe301st);
        checks.test("3: not more than 300 would be IN", OneRelationTest::putWhere300AreIn);
        checks.test("4: The COUNT of TUPLE t", OneRelationTest::countOfATuple);
        checks.test("4: IllegalArgumentException: t is no TUPLE of the WIDTH", OneRelationTest::countOfNoTuple);
        checks.test("5: The TUPLE that is IN at place k in ORDER, from 0", OneRelationTest::atPlaceFrom0);
        checks.test("5: NoSuchElementException: there is none, too", OneRelationTest::atWhereThereIsNone);
        checks.test("12: what 0 WIDTH", OneRelationTest::aboutWidth);
        checks.test("12: 1 how many are IN", OneRelationTest::aboutHowManyAreIn);
        checks.test("12: 2 how many different first NUMBERS these have", OneRelationTest::aboutFirstNumbers);
        checks.test("12: 3 COUNTS added (as a long)", OneRelationTest::aboutCountsAdded);
        checks.test("12: 4 the greatest COUNT of those IN (0 without any)", OneRelationTest::aboutTheGreatestCount);
        checks.test("12: IllegalArgumentException: another what", OneRelationTest::aboutAnotherWhat);
        checks.test("13: Whether the same are IN both", OneRelationTest::sameIn);
        checks.test("13: with the same COUNTS", OneRelationTest::sameCounts);
        checks.test("13: and the WIDTHS are the same", OneRelationTest::sameWidths);
        checks.finish();
    }

    private static void newOnesHaveWidth1() {
        TupleShelf x = new TupleShelf();
        for (int r = 0; r < Shelves.RELATIONS; r++) {
            checks.due("width of " + r, 1, x.about(r, 0));
        }
    }

    private static void newOnesHaveNothingIn() {
        TupleShelf before = Shelves.with(0, 1, 0x000, 1);
        TupleShelf x = new TupleShelf();
        for (int r = 0; r < Shelves.RELATIONS; r++) {
            int relation = r;
            checks.due("in " + r, 0, x.about(r, 1));
            checks.due("count in " + r, 0, x.count(r, 0x000));
            checks.dueThrow("at 0 in " + r, Checks.NO_SUCH, () -> x.at(relation, 0));
            checks.due("same as 0", true, x.same(r, 0));
        }
        checks.due("the object before keeps its own", 1, before.about(0, 1));
    }

    private static void anotherWidth() {
        for (int from = 1; from <= 3; from++) {
            for (int to = 1; to <= 3; to++) {
                TupleShelf x = new TupleShelf();
                x.width(4, from);
                x.width(4, to);
                checks.due("from " + from + " to " + to, to, x.about(4, 0));
                checks.due("the one before stays", 1, x.about(3, 0));
                checks.due("the one behind stays", 1, x.about(5, 0));
            }
        }
    }

    private static void nothingInThen() {
        for (int from = 1; from <= 3; from++) {
            for (int to = 1; to <= 3; to++) {
                TupleShelf x = Shelves.with(0, from, 0x000, 1, 0x100, -1, 0xf00, MIN);
                Shelves.fill(x, 1, 1, 0x200, 2);
                x.width(0, to);
                String what = "from " + from + " to " + to;
                checks.due(what, 0, x.about(0, 1));
                checks.due(what + ", count", 0, x.count(0, 0x100));
                checks.dueThrow(what + ", at", Checks.NO_SUCH, () -> x.at(0, 0));
                x.width(0, from);
                checks.due(what + " and back", 0, x.about(0, 1));
                checks.due(what + " and back, put", 5, x.put(0, 0x100, 5));
                checks.dueContent(what + ", others stay", x, 1, 0x200, 2);
            }
        }
    }

    private static void howManyWereIn() {
        TupleShelf x = new TupleShelf();
        checks.due("none", 0, x.width(0, 3));
        x.put(0, 0xfff, -1);
        checks.due("one, to the width it has", 1, x.width(0, 3));
        checks.due("none again", 0, x.width(0, 3));
        Shelves.fillRow(x, 0, 0, Shelves.MOST_IN);
        checks.due("300", 300, x.width(0, 1));
    }

    private static void noWidth() {
        TupleShelf x = Shelves.with(0, 2, 0x010, 5);
        for (int w : new int[] {0, 4, -1, 5, MIN, MAX}) {
            checks.dueThrow("width " + w, Checks.ARGUMENT, () -> x.width(0, w));
            checks.due("width " + w, "width 2 [16, 5]", Shelves.told(x, 0));
        }
    }

    private static void byMore() {
        int[][] all = {{0, 0}, {0, 7}, {0, -7}, {7, -7}, {7, 0}, {MAX, 1}, {MIN, -1}, {MIN, MIN}, {MAX, MAX}, {1, MAX},
            {-1, MIN}, {MAX, MIN}};
        for (int[] n : all) {
            TupleShelf x = Shelves.with(0, 3, 0x122, 1, 0x124, 1);
            String what = "by " + n[0] + " and by " + n[1];
            x.put(0, 0x123, n[0]);
            x.put(0, 0x123, n[1]);
            checks.due(what, n[0] + n[1], x.count(0, 0x123));
            checks.due(what + ", in", n[0] + n[1] == 0 ? 2 : 3, x.about(0, 1));
            checks.due(what + ", its neighbours stay", true, x.count(0, 0x122) == 1 && x.count(0, 0x124) == 1);
        }
    }

    private static void theCountThen() {
        TupleShelf x = new TupleShelf();
        checks.due("by 0 of one not in", 0, x.put(0, 0x100, 0));
        checks.due("by 0 puts nothing in", 0, x.about(0, 1));
        checks.due("first", MAX, x.put(0, 0x100, MAX));
        checks.due("by 0 of one in", MAX, x.put(0, 0x100, 0));
        checks.due("wraps", MIN, x.put(0, 0x100, 1));
        checks.due("wraps to 0", 0, x.put(0, 0x100, MIN));
        checks.due("after it was out", -1, x.put(0, 0x100, -1));
    }

    private static boolean isTuple(int t, int width) {
        return t >= 0 && t < 4096 && t % STEP[width] == 0;
    }

    /** All ints from well below the least tuple to well above the greatest, and some far off. */
    private static int[] ints() {
        return IntStream.concat(IntStream.range(-300, 4500),
            IntStream.of(MIN, MIN + 256, -4096, 1 << 16, 1 << 30, MAX - 255, MAX)).toArray();
    }

    private static void putOfNoTuple() {
        for (int w = 1; w <= 3; w++) {
            for (int t : ints()) {
                putTellsWhetherItIsATuple(w, t);
            }
        }
    }

    private static void putTellsWhetherItIsATuple(int w, int t) {
        TupleShelf x = new TupleShelf();
        x.width(0, w);
        String what = "of width " + w + ": " + t;
        if (isTuple(t, w)) {
            checks.due(what, 1, x.put(0, t, 1));
            checks.due(what, t, x.at(0, 0));
        } else {
            checks.dueThrow(what, Checks.ARGUMENT, () -> x.put(0, t, 1));
            checks.dueThrow(what + " by 0", Checks.ARGUMENT, () -> x.put(0, t, 0));
            checks.due(what, 0, x.about(0, 1));
        }
    }

    private static void putOfThe301st() {
        TupleShelf x = new TupleShelf();
        Shelves.fillRow(x, 0, 100, Shelves.MOST_IN - 1);
        checks.due("the 300th", -9, x.put(0, 4095, -9));
        for (int t : new int[] {0, 99, 399, 4094}) {
            checks.dueThrow("the 301st: " + t, Checks.STATE, () -> x.put(0, t, 1));
            checks.dueThrow("the 301st below 0: " + t, Checks.STATE, () -> x.put(0, t, -1));
        }
        checks.due("300 are in", 300, x.about(0, 1));
        checks.due("with their counts", 290, x.about(0, 3));
        checks.due("the first", 100, x.at(0, 0));
        checks.due("the last", 4095, x.at(0, 299));
        checks.due("another relation has room", 1, x.put(1, 0, 1));
    }

    private static void putWhere300AreIn() {
        TupleShelf x = new TupleShelf();
        Shelves.fillRow(x, 0, 100, Shelves.MOST_IN);
        checks.due("by 0 of one not in", 0, x.put(0, 0, 0));
        checks.due("by more of the first", 3, x.put(0, 100, 2));
        checks.due("by more of the last", 4, x.put(0, 399, 3));
        checks.due("by 0 of one in", 1, x.put(0, 250, 0));
        checks.due("the last out", 0, x.put(0, 399, -4));
        checks.due("another in for it, in front", 4, x.put(0, 0, 4));
        checks.due("300 again", 300, x.about(0, 1));
        checks.due("the first out", 0, x.put(0, 0, -4));
        checks.due("another in for it, behind", 5, x.put(0, 4095, 5));
        checks.due("300 once more", 300, x.about(0, 1));
        checks.dueThrow("and no more", Checks.STATE, () -> x.put(0, 0, 1));
    }

    private static void countOfATuple() {
        TupleShelf x = Shelves.with(0, 2, 0x010, 5, 0x100, MIN, 0xff0, MAX);
        checks.due("in", 5, x.count(0, 0x010));
        checks.due("below 0", MIN, x.count(0, 0x100));
        checks.due("the greatest tuple", MAX, x.count(0, 0xff0));
        checks.due("not in, the least tuple", 0, x.count(0, 0x000));
        checks.due("not in, between", 0, x.count(0, 0x020));
        checks.due("not in, behind", 0, x.count(0, 0xfe0));
        checks.due("in an empty one", 0, x.count(1, 0x100));
        checks.due("asked for, it is not in", 3, x.about(0, 1));
        TupleShelf full = new TupleShelf();
        Shelves.fillRow(full, 0, 0, Shelves.MOST_IN);
        checks.due("the first of 300", 1, full.count(0, 0));
        checks.due("the last of 300", 1, full.count(0, 299));
        checks.due("behind the last of 300", 0, full.count(0, 300));
    }

    private static void countOfNoTuple() {
        for (int w = 1; w <= 3; w++) {
            for (int t : ints()) {
                countTellsWhetherItIsATuple(w, t);
            }
        }
    }

    private static void countTellsWhetherItIsATuple(int w, int t) {
        TupleShelf x = new TupleShelf();
        x.width(0, w);
        String what = "of width " + w + ": " + t;
        if (isTuple(t, w)) {
            checks.due(what, 0, x.count(0, t));
        } else {
            checks.dueThrow(what, Checks.ARGUMENT, () -> x.count(0, t));
        }
    }

    private static void atPlaceFrom0() {
        TupleShelf x = Shelves.with(0, 3, 4095, 1, 7, -1, 256, 3, 0, MIN);
        checks.dueTuples("four", x, 0, 0, 7, 256, 4095);
        x.put(0, 7, 1);
        checks.due("the next moves up", 256, x.at(0, 1));
        TupleShelf full = new TupleShelf();
        Shelves.fillRow(full, 0, 3796, Shelves.MOST_IN);
        checks.due("the first of 300", 3796, full.at(0, 0));
        checks.due("the last of 300", 4095, full.at(0, 299));
    }

    private static void atWhereThereIsNone() {
        TupleShelf x = Shelves.with(0, 3, 4095, 1, 7, 1, 256, 1);
        for (int k : new int[] {-1, 3, 4, 299, 300, 4096, MIN, MAX}) {
            checks.dueThrow("of three at " + k, Checks.NO_SUCH, () -> x.at(0, k));
            checks.dueThrow("of none at " + k, Checks.NO_SUCH, () -> x.at(1, k));
        }
        checks.dueThrow("of none at 0", Checks.NO_SUCH, () -> x.at(1, 0));
        x.put(0, 256, -1);
        checks.dueThrow("where one was", Checks.NO_SUCH, () -> x.at(0, 2));
        TupleShelf full = new TupleShelf();
        Shelves.fillRow(full, 0, 0, Shelves.MOST_IN);
        checks.dueThrow("behind the last of 300", Checks.NO_SUCH, () -> full.at(0, 300));
    }

    private static void aboutWidth() {
        TupleShelf x = new TupleShelf();
        checks.due("at first", 1, x.about(0, 0));
        for (int w = 1; w <= 3; w++) {
            Shelves.fill(x, w, w, 0x100, 9);
            checks.due("set", w, x.about(w, 0));
        }
    }

    private static void aboutHowManyAreIn() {
        TupleShelf x = Shelves.with(0, 3);
        checks.due("none", 0, x.about(0, 1));
        for (int n = 1; n <= 200; n++) {
            x.put(0, n * 20, n % 2 == 0 ? 5 : -5);
            checks.due("in", n, x.about(0, 1));
        }
        x.put(0, 20, 5);
        checks.due("one out", 199, x.about(0, 1));
        TupleShelf full = new TupleShelf();
        Shelves.fillRow(full, 0, 0, Shelves.MOST_IN);
        checks.due("300", 300, full.about(0, 1));
    }

    private static void aboutFirstNumbers() {
        TupleShelf x = Shelves.with(0, 3);
        checks.due("none", 0, x.about(0, 2));
        x.put(0, 0x000, 1);
        checks.due("the number 0 is one", 1, x.about(0, 2));
        x.put(0, 0x0ff, 1);
        checks.due("the same first number", 1, x.about(0, 2));
        x.put(0, 0xf00, -1);
        checks.due("the number 15", 2, x.about(0, 2));
        x.put(0, 0xf00, 1);
        checks.due("one out", 1, x.about(0, 2));
        for (int w = 1; w <= 3; w++) {
            x.width(1, w);
            for (int n = 0; n < 16; n++) {
                x.put(1, n << 8, 1);
            }
            checks.due("all 16 of width " + w, 16, x.about(1, 2));
        }
    }

    private static void aboutCountsAdded() {
        TupleShelf x = new TupleShelf();
        checks.due("none", 0, x.about(0, 3));
        Shelves.fill(x, 0, 1, 0x000, MAX, 0x100, MAX);
        checks.due("above int", 2L * MAX, x.about(0, 3));
        Shelves.fill(x, 0, 1, 0x000, MIN, 0x100, MIN, 0x200, -1);
        checks.due("below int", 2L * MIN - 1, x.about(0, 3));
        Shelves.fill(x, 0, 1, 0x000, MIN, 0x100, MAX, 0x200, 1);
        checks.due("0 with three in", 0, x.about(0, 3));
        TupleShelf full = new TupleShelf();
        full.width(0, 3);
        for (int t = 0; t < Shelves.MOST_IN; t++) {
            full.put(0, t, MAX);
        }
        checks.due("300 of the greatest", 300L * MAX, full.about(0, 3));
    }

    private static void aboutTheGreatestCount() {
        TupleShelf x = new TupleShelf();
        checks.due("without any", 0, x.about(0, 4));
        Shelves.fill(x, 0, 1, 0x000, MIN);
        checks.due("the least count alone", MIN, x.about(0, 4));
        x.put(0, 0x100, -3);
        x.put(0, 0x200, -4);
        checks.due("all below 0", -3, x.about(0, 4));
        x.put(0, 0x300, MAX);
        checks.due("at the end", MAX, x.about(0, 4));
        x.put(0, 0x300, -MAX);
        checks.due("the greatest out", -3, x.about(0, 4));
        x.put(0, 0x000, MIN);
        x.put(0, 0x000, 8);
        checks.due("at the start", 8, x.about(0, 4));
        x.width(0, 1);
        checks.due("without any again", 0, x.about(0, 4));
    }

    private static void aboutAnotherWhat() {
        TupleShelf x = Shelves.with(0, 2, 0x120, 1);
        for (int what : new int[] {-1, 5, 6, MIN, MAX}) {
            checks.dueThrow("what " + what, Checks.ARGUMENT, () -> x.about(0, what));
            checks.dueThrow("of an empty one, what " + what, Checks.ARGUMENT, () -> x.about(1, what));
        }
    }

    private static void sameIn() {
        TupleShelf x = Shelves.with(0, 2, 0x120, 2, 0x340, 3);
        Shelves.fill(x, 1, 2, 0x340, 3, 0x120, 2);
        checks.due("put in another order", true, x.same(0, 1));
        checks.due("itself", true, x.same(0, 0));
        x.put(1, 0x560, 1);
        checks.due("one more in b", false, x.same(0, 1));
        checks.due("one more in a", false, x.same(1, 0));
        x.put(1, 0x340, -3);
        checks.due("another one, behind", false, x.same(0, 1));
        Shelves.fill(x, 1, 2, 0x110, 2, 0x340, 3);
        checks.due("another one, in front", false, x.same(0, 1));
        x.width(2, 2);
        checks.due("one with none in", false, x.same(0, 2));
        checks.due("both with none in", true, x.same(5, 6));
        TupleShelf full = new TupleShelf();
        Shelves.fillRow(full, 0, 0, Shelves.MOST_IN);
        Shelves.copy(full, 1, 0);
        checks.due("300", true, full.same(0, 1));
        full.put(1, 299, -1);
        full.put(1, 300, 1);
        checks.due("300, the last is another", false, full.same(0, 1));
    }

    private static void sameCounts() {
        TupleShelf x = Shelves.with(0, 2, 0x120, 2, 0x340, MIN);
        Shelves.fill(x, 1, 2, 0x120, 2, 0x340, MIN);
        checks.due("the same", true, x.same(0, 1));
        x.put(1, 0x120, -4);
        checks.due("with another sign", false, x.same(0, 1));
        x.put(1, 0x120, 4);
        x.put(1, 0x340, -1);
        checks.due("by one, at the end", false, x.same(0, 1));
        Shelves.fill(x, 1, 2, 0x120, MIN, 0x340, 2);
        checks.due("of one another", false, x.same(0, 1));
    }

    private static void sameWidths() {
        for (int a = 1; a <= 3; a++) {
            for (int b = 1; b <= 3; b++) {
                TupleShelf x = Shelves.with(0, a, 0x100, 1);
                Shelves.fill(x, 1, b, 0x100, 1);
                x.width(2, a);
                x.width(3, b);
                checks.due("widths " + a + " and " + b, a == b, x.same(0, 1));
                checks.due("empty, of widths " + a + " and " + b, a == b, x.same(2, 3));
            }
        }
    }
}
