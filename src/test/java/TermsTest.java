import java.util.List;

/** The boundary cases that the document names in "What it is" and "Terms", a test for each. */
public final class TermsTest {
    private static final int LAST_CALL = 512;
    private static final int MIN = Shelves.MIN;
    private static final int MAX = Shelves.MAX;

    /** A call with a relation r in one of its arguments. */
    private interface WithRelation {
        void call(TupleShelf x, int r);
    }

    private record Named(String name, WithRelation with) {
    }

    /** A call that makes a relation anew of one or two others. */
    private interface Making {
        int make(TupleShelf x, int to, int a, int b);
    }

    /** How wide it makes it of relations of width 2, and how many are in, of those of pairs(). */
    private record Maker(String name, int width, int in, Making making) {
    }

    // Right in all but r, where each relation has width 2 and the tuple 0 in.
    private static final List<Named> EACH_RELATION = List.of(
        new Named("width r", (x, r) -> x.width(r, 2)),
        new Named("put r", (x, r) -> x.put(r, 0, 1)),
        new Named("count r", (x, r) -> x.count(r, 0)),
        new Named("at r", (x, r) -> x.at(r, 0)),
        new Named("join to", (x, r) -> x.join(r, 1, 2, 1)),
        new Named("join a", (x, r) -> x.join(3, r, 2, 1)),
        new Named("join b", (x, r) -> x.join(3, 1, r, 1)),
        new Named("narrow to", (x, r) -> x.narrow(r, 1, 1)),
        new Named("narrow a", (x, r) -> x.narrow(3, r, 1)),
        new Named("pick to", (x, r) -> x.pick(r, 1, 0, 0)),
        new Named("pick a", (x, r) -> x.pick(3, r, 0, 0)),
        new Named("alter to", (x, r) -> x.alter(r, 0, 1, 2)),
        new Named("alter a", (x, r) -> x.alter(3, 0, r, 2)),
        new Named("alter b", (x, r) -> x.alter(3, 0, 1, r)),
        new Named("reach to", (x, r) -> x.reach(r, 1)),
        new Named("reach a", (x, r) -> x.reach(3, r)),
        new Named("turn to", (x, r) -> x.turn(r, 1)),
        new Named("turn a", (x, r) -> x.turn(3, r)),
        new Named("about r", (x, r) -> x.about(r, 0)),
        new Named("same a", (x, r) -> x.same(r, 1)),
        new Named("same b", (x, r) -> x.same(1, r)));

    // Wrong in r and in another argument as well; relation 5 has width 1, all others have width 2.
    private static final List<Named> WRONG_IN_MORE = List.of(
        new Named("width, no width", (x, r) -> x.width(r, 0)),
        new Named("put, no tuple", (x, r) -> x.put(r, -1, 1)),
        new Named("count, no tuple", (x, r) -> x.count(r, 4096)),
        new Named("join to, on below 0", (x, r) -> x.join(r, 1, 2, -1)),
        new Named("join to, on above", (x, r) -> x.join(r, 1, 2, 3)),
        new Named("join to, too wide", (x, r) -> x.join(r, 1, 2, 0)),
        new Named("join a, on below 0", (x, r) -> x.join(3, r, 2, -1)),
        new Named("join a, on above b", (x, r) -> x.join(3, r, 2, 3)),
        new Named("join b, on below 0", (x, r) -> x.join(3, 1, r, -1)),
        new Named("join b, on above a", (x, r) -> x.join(3, 1, r, 3)),
        new Named("narrow to, no place", (x, r) -> x.narrow(r, 1, 0)),
        new Named("narrow to, another place", (x, r) -> x.narrow(r, 1, 4)),
        new Named("narrow a, no place", (x, r) -> x.narrow(3, r, 0)),
        new Named("pick to, no place", (x, r) -> x.pick(r, 1, 2, 0)),
        new Named("pick to, no number", (x, r) -> x.pick(r, 1, 0, 16)),
        new Named("pick a, no place", (x, r) -> x.pick(3, r, -1, 0)),
        new Named("pick a, no number", (x, r) -> x.pick(3, r, 0, -1)),
        new Named("alter to, another op", (x, r) -> x.alter(r, 6, 1, 2)),
        new Named("alter to, other widths", (x, r) -> x.alter(r, 0, 1, 5)),
        new Named("alter a, another op", (x, r) -> x.alter(3, -1, r, 2)),
        new Named("alter b, another op", (x, r) -> x.alter(3, 6, 1, r)),
        new Named("reach to, width 1", (x, r) -> x.reach(r, 5)),
        new Named("about, another what", (x, r) -> x.about(r, 5)));

    // Relation 0 has width 2, relation 1 width 1, relation 2 width 3.
    private static final List<Named> WRONG_ARGUMENTS = List.of(
        new Named("width", (x, r) -> x.width(r, 4)),
        new Named("put", (x, r) -> x.put(r, 4096, 1)),
        new Named("count", (x, r) -> x.count(r, -1)),
        new Named("join, on below 0", (x, r) -> x.join(r, 0, 0, -1)),
        new Named("join, on above", (x, r) -> x.join(r, 0, 1, 2)),
        new Named("join, too wide", (x, r) -> x.join(r, 0, 0, 0)),
        new Named("narrow, no place", (x, r) -> x.narrow(r, 0, 0)),
        new Named("narrow, another place", (x, r) -> x.narrow(r, 0, 5)),
        new Named("pick, no place", (x, r) -> x.pick(r, 0, 2, 1)),
        new Named("pick, no number", (x, r) -> x.pick(r, 0, 0, 16)),
        new Named("alter, another op", (x, r) -> x.alter(r, 6, 0, 0)),
        new Named("alter, other widths", (x, r) -> x.alter(r, 0, 0, 2)),
        new Named("reach, width 1", (x, r) -> x.reach(r, 1)),
        new Named("reach, width 3", (x, r) -> x.reach(r, 2)),
        new Named("about", (x, r) -> x.about(r, 5)));

    private static final List<Maker> MAKERS = List.of(
        new Maker("join on 1", 3, 4, (x, to, a, b) -> x.join(to, a, b, 1)),
        new Maker("join on 2", 2, 2, (x, to, a, b) -> x.join(to, a, b, 2)),
        new Maker("narrow to the first", 1, 3, (x, to, a, b) -> x.narrow(to, a, 1)),
        new Maker("narrow to the second", 1, 2, (x, to, a, b) -> x.narrow(to, a, 2)),
        new Maker("narrow to both", 2, 4, (x, to, a, b) -> x.narrow(to, a, 3)),
        new Maker("pick", 2, 2, (x, to, a, b) -> x.pick(to, a, 0, 1)),
        new Maker("alter 0", 2, 4, (x, to, a, b) -> x.alter(to, 0, a, b)),
        new Maker("alter 1", 2, 5, (x, to, a, b) -> x.alter(to, 1, a, b)),
        new Maker("alter 2", 2, 2, (x, to, a, b) -> x.alter(to, 2, a, b)),
        new Maker("alter 3", 2, 2, (x, to, a, b) -> x.alter(to, 3, a, b)),
        new Maker("alter 4", 2, 5, (x, to, a, b) -> x.alter(to, 4, a, b)),
        new Maker("alter 5", 2, 2, (x, to, a, b) -> x.alter(to, 5, a, b)),
        new Maker("reach", 2, 6, (x, to, a, b) -> x.reach(to, a)),
        new Maker("turn", 2, 4, (x, to, a, b) -> x.turn(to, a)));

    private static final Checks checks = new Checks();

    public static void main(String[] args) {
        checks.test("an object is used for at most 512 calls", TermsTest::lastCallAnswers);
        checks.test("RELATIONS 0 .. 7", TermsTest::relationsFrom0To7);
        checks.test("NoSuchElementException: a RELATION that there is not (so for all)", TermsTest::noRelation);
        checks.test("each of a WIDTH 1, 2 or 3", TermsTest::widthsFrom1To3);
        checks.test("(1 at first)", TermsTest::width1AtFirst);
        checks.test("TUPLES have WIDTH NUMBERS 0 .. 15", TermsTest::numbersFrom0To15);
        checks.test("256 times the first NUMBER, 16 times the second, the third", TermsTest::firstSecondThird);
        checks.test("NUMBERS that it has not are 0 there", TermsTest::numbersItHasNotAre0);
        checks.test("a COUNT, an int that wraps", TermsTest::countWraps);
        checks.test("0 at first", TermsTest::count0AtFirst);
        checks.test("it is IN if that is not 0", TermsTest::inIfNot0);
        checks.test("IN if that is not 0: one that is out again", TermsTest::notInIsNotSeen);
        checks.test("At most 300 are IN", TermsTest::atMost300);
        checks.test("ORDER: the ints from the least on", TermsTest::orderFromTheLeast);
        checks.test("(to; it may be one of those that it is made of) look at those as they were",
            TermsTest::toIsOneOfThose);
        checks.test("give it the WIDTH of what it becomes", TermsTest::widthOfWhatItBecomes);
        checks.test("they answer how many are IN", TermsTest::howManyAreIn);
        checks.test("in this order: NoSuchElementException, IllegalArgumentException", TermsTest::noRelationComesFirst);
        checks.test("in this order: NoSuchElementException, IllegalStateException",
            TermsTest::noRelationComesBeforeState);
        checks.test("in this order: IllegalArgumentException, IllegalStateException",
            TermsTest::argumentComesBeforeState);
        checks.test("IllegalStateException: more than 300 would be IN", TermsTest::moreThan300);
        checks.test("more than 300 would be IN; then nothing changes", TermsTest::refusedForMoreThan300ChangesNothing);
        checks.test("a RELATION that there is not: nothing changes", TermsTest::refusedForRelationChangesNothing);
        checks.test("IllegalArgumentException: nothing changes", TermsTest::refusedForArgumentChangesNothing);
        checks.finish();
    }

    private static TupleShelf allOfWidth2() {
        TupleShelf x = new TupleShelf();
        for (int r = 0; r < Shelves.RELATIONS; r++) {
            Shelves.fill(x, r, 2, 0x000, 1);
        }
        return x;
    }

    /** Relations 0 and 1 of pairs: two are in both; some of their counts are 0 together, in 0 too. */
    private static TupleShelf pairs() {
        TupleShelf x = Shelves.with(0, 2, 0x120, 2, 0x130, 5, 0x230, -5, 0x340, 7);
        Shelves.fill(x, 1, 2, 0x230, 5, 0x340, 1, 0x450, 1);
        return x;
    }

    private static void lastCallAnswers() {
        TupleShelf x = new TupleShelf();
        for (int call = 1; call <= LAST_CALL; call++) {
            checks.due("put, call " + call, call, x.put(7, 0xf00, 1));
        }
        TupleShelf full = new TupleShelf();
        Shelves.fillRow(full, 0, 0, Shelves.MOST_IN);
        for (int call = Shelves.MOST_IN + 2; call <= LAST_CALL; call++) {
            checks.due("turn of 300, call " + call, 300, full.turn(0, 0));
        }
    }

    private static void relationsFrom0To7() {
        for (Named each : EACH_RELATION) {
            TupleShelf x = allOfWidth2();
            checks.dueNoThrow(each.name + " 0", () -> each.with.call(x, 0));
            TupleShelf y = allOfWidth2();
            checks.dueNoThrow(each.name + " 7", () -> each.with.call(y, 7));
        }
        TupleShelf apart = new TupleShelf();
        for (int r = 0; r < Shelves.RELATIONS; r++) {
            apart.put(r, 0x100, r + 1);
        }
        for (int r = 0; r < Shelves.RELATIONS; r++) {
            checks.dueContent("each for itself " + r, apart, r, 0x100, r + 1);
        }
    }

    private static void noRelation() {
        for (Named each : EACH_RELATION) {
            for (int r : Shelves.NO_RELATIONS) {
                TupleShelf x = allOfWidth2();
                checks.dueThrow(each.name + " " + r, Checks.NO_SUCH, () -> each.with.call(x, r));
            }
        }
    }

    private static void widthsFrom1To3() {
        int[] greatest = {0, 0xf00, 0xff0, 0xfff};
        TupleShelf x = new TupleShelf();
        for (int r = 0; r < Shelves.RELATIONS; r++) {
            for (int w = 1; w <= 3; w++) {
                x.width(r, w);
                checks.due("width of " + r, w, x.about(r, 0));
                checks.due("its greatest tuple goes in", 1, x.put(r, greatest[w], 1));
            }
        }
    }

    private static void width1AtFirst() {
        for (int r = 0; r < Shelves.RELATIONS; r++) {
            TupleShelf x = new TupleShelf();
            int relation = r;
            checks.due("width of " + r, 1, x.about(r, 0));
            checks.dueThrow("no tuple of two", Checks.ARGUMENT, () -> x.put(relation, 0x110, 1));
        }
    }

    private static void numbersFrom0To15() {
        for (int w = 1; w <= 3; w++) {
            TupleShelf x = new TupleShelf();
            x.width(0, w);
            for (int place = 0; place < w; place++) {
                int greatest = 15 << 8 - 4 * place;
                checks.due("15 at " + place, 1, x.put(0, greatest, 1));
                checks.due("15 alone at " + place, 1, x.pick(1, 0, place, 15));
                checks.dueContent("15 is at " + place, x, 1, greatest, 1);
                x.put(0, greatest, -1);
            }
            checks.due("0 everywhere", 1, x.put(0, 0, 1));
            checks.due("0 is the number there", 1, x.pick(1, 0, w - 1, 0));
            checks.dueThrow("16 at first", Checks.ARGUMENT, () -> x.put(0, 16 * 256, 1));
        }
    }

    private static void firstSecondThird() {
        TupleShelf x = Shelves.with(0, 3, 1 * 256 + 2 * 16 + 3, 1);
        int[] numbers = {1, 2, 3};
        for (int place = 0; place < 3; place++) {
            checks.due("one has it", 1, x.pick(1, 0, place, numbers[place]));
            x.narrow(1, 0, 1 << place);
            checks.dueContent("number at " + place, x, 1, numbers[place] * 256, 1);
        }
    }

    private static void numbersItHasNotAre0() {
        TupleShelf x = Shelves.with(0, 1, 5 * 256, 1);
        Shelves.fill(x, 1, 2, 5 * 256 + 6 * 16, 1);
        for (int behind : new int[] {1, 2, 4, 8, 15, 16, 32, 64, 128, 240, 255}) {
            checks.dueThrow("width 1, " + behind, Checks.ARGUMENT, () -> x.put(0, 5 * 256 + behind, 1));
        }
        for (int behind : new int[] {1, 2, 4, 8, 15}) {
            checks.dueThrow("width 2, " + behind, Checks.ARGUMENT, () -> x.put(1, 5 * 256 + 6 * 16 + behind, 1));
        }
        x.narrow(2, 1, 2);
        checks.dueContent("narrowed to one", x, 2, 6 * 256, 1);
        x.turn(2, 0);
        checks.dueContent("one turned", x, 2, 5 * 256, 1);
        x.turn(2, 1);
        checks.dueContent("two turned", x, 2, 6 * 256 + 5 * 16, 1);
        x.join(2, 0, 1, 1);
        checks.dueContent("joined to two", x, 2, 5 * 256 + 6 * 16, 1);
        x.reach(2, 1);
        checks.dueContent("a way", x, 2, 5 * 256 + 6 * 16, 1);
    }

    private static void countWraps() {
        TupleShelf x = Shelves.with(0, 2, 0x120, MAX, 0x130, MIN);
        checks.due("put above", MIN, x.put(0, 0x120, 1));
        checks.due("put below", MAX, x.put(0, 0x130, -1));
        checks.due("put MIN to MAX", -1, x.put(0, 0x130, MIN));
        Shelves.fill(x, 1, 1, 0x100, 1 << 30);
        Shelves.fill(x, 2, 1, 0x100, 6);
        x.join(3, 1, 2, 1);
        checks.dueContent("join", x, 3, 0x100, MIN);
        Shelves.fill(x, 4, 2, 0x120, MAX, 0x130, MAX);
        x.narrow(3, 4, 1);
        checks.dueContent("narrow", x, 3, 0x100, -2);
        x.alter(3, 0, 4, 4);
        checks.dueContent("alter 0", x, 3, 0x120, -2, 0x130, -2);
        Shelves.fill(x, 5, 2, 0x120, -1, 0x130, MIN);
        x.alter(3, 1, 4, 5);
        checks.dueContent("alter 1", x, 3, 0x120, MIN, 0x130, -1);
    }

    private static void count0AtFirst() {
        TupleShelf x = new TupleShelf();
        for (int t = 0; t < 4096; t += 256) {
            checks.due("of width 1: " + t, 0, x.count(0, t));
        }
        x.width(0, 2);
        for (int t = 0; t < 4096; t += 16) {
            checks.due("of width 2: " + t, 0, x.count(0, t));
        }
        checks.due("what is put on it is the count", -7, x.put(0, 0x120, -7));
    }

    private static void inIfNot0() {
        for (int count : new int[] {1, -1, MAX, MIN}) {
            TupleShelf x = Shelves.with(0, 2, 0x120, count);
            checks.due("one in", 1, x.about(0, 1));
            checks.due("it is at 0", 0x120, x.at(0, 0));
            checks.due("it is one of alter 4", 1, x.alter(1, 4, 0, 0));
            checks.due("it is a step", 1, x.reach(1, 0));
        }
        TupleShelf x = Shelves.with(0, 1, 0x100, 1 << 16, 0x200, 3);
        checks.due("a product that wraps to 0 is out", 1, x.join(1, 0, 0, 1));
        checks.dueContent("the other product", x, 1, 0x200, 9);
        Shelves.fill(x, 2, 2, 0x120, 4, 0x130, -4, 0x240, MIN, 0x250, MIN, 0x360, 1);
        checks.due("sums of 0 are out", 1, x.narrow(1, 2, 1));
        checks.dueContent("the other sum", x, 1, 0x300, 1);
        Shelves.fill(x, 3, 2, 0x120, -4, 0x130, -4, 0x240, MIN);
        checks.due("alter 0: sums of 0 are out", 3, x.alter(1, 0, 2, 3));
        checks.dueContent("alter 0", x, 1, 0x130, -8, 0x250, MIN, 0x360, 1);
        checks.due("alter 1: differences of 0 are out", 3, x.alter(1, 1, 2, 3));
        checks.dueContent("alter 1", x, 1, 0x120, 8, 0x250, MIN, 0x360, 1);
    }

    // Taken out by a put, and once by a wrap: no call may still see one whose count is 0 again.
    private static void notInIsNotSeen() {
        TupleShelf x = Shelves.with(0, 2, 0x120, 5, 0x230, MIN);
        x.put(0, 0x120, -5);
        x.put(0, 0x230, MIN);
        x.width(1, 2);
        Shelves.fill(x, 2, 2, 0x120, 1, 0x230, 1);
        checks.due("count", 0, x.count(0, 0x120));
        checks.due("put by 0", 0, x.put(0, 0x230, 0));
        checks.dueThrow("at", Checks.NO_SUCH, () -> x.at(0, 0));
        checks.due("join", 0, x.join(3, 0, 2, 1));
        checks.due("join behind", 0, x.join(3, 2, 0, 1));
        checks.due("narrow", 0, x.narrow(3, 0, 1));
        checks.due("pick", 0, x.pick(3, 0, 0, 1));
        int[] due = {2, 2, 0, 2, 2, 0};
        for (int op = 0; op < due.length; op++) {
            checks.due("alter " + op, due[op], x.alter(3, op, 2, 0));
        }
        checks.due("alter 4 with itself", 0, x.alter(3, 4, 0, 0));
        checks.due("reach", 0, x.reach(3, 0));
        checks.due("turn", 0, x.turn(3, 0));
        for (int what = 1; what <= 4; what++) {
            checks.due("about " + what, 0, x.about(0, what));
        }
        checks.due("same as one that had nothing in", true, x.same(0, 1));
        checks.due("width", 0, x.width(0, 2));
    }

    private static void atMost300() {
        TupleShelf x = new TupleShelf();
        x.width(0, 3);
        for (int t = 0; t < Shelves.MOST_IN; t++) {
            checks.due("one in", 1, x.put(0, 4095 - t, 1));
        }
        for (int r = 1; r < Shelves.RELATIONS; r++) {
            Shelves.copy(x, r, 0);
        }
        for (int r = 0; r < Shelves.RELATIONS; r++) {
            int relation = r;
            checks.due("each of the eight has 300", 300, x.about(r, 1));
            checks.dueThrow("and no room for one more", Checks.STATE, () -> x.put(relation, 0, 1));
        }
    }

    private static void orderFromTheLeast() {
        TupleShelf x = new TupleShelf();
        x.width(0, 3);
        for (int n = 0; n < 64; n++) {
            x.put(0, n * 1625 & 4095, n % 2 == 0 ? 1 : -1);
        }
        x.put(0, 4095, 1);
        int[] tuples = Shelves.tuples(x, 0);
        checks.due("the least", 0, tuples[0]);
        checks.due("the greatest", 4095, tuples[tuples.length - 1]);
        for (int k = 1; k < tuples.length; k++) {
            checks.due("upwards at " + k, true, tuples[k - 1] < tuples[k]);
        }
        Shelves.fill(x, 1, 3, 0x123, 1, 0x231, 1, 0x312, 1);
        x.turn(1, 1);
        checks.dueTuples("turned", x, 1, 0x132, 0x213, 0x321);
        x.narrow(1, 1, 2);
        checks.dueTuples("narrowed", x, 1, 0x100, 0x200, 0x300);
        Shelves.fill(x, 2, 1, 0x200, 1, 0x000, 1);
        x.alter(1, 0, 1, 2);
        checks.dueTuples("added", x, 1, 0x000, 0x100, 0x200, 0x300);
        x.join(1, 2, 2, 0);
        checks.dueTuples("joined", x, 1, 0x000, 0x020, 0x200, 0x220);
        Shelves.fill(x, 3, 2, 0xf10, 1, 0x1f0, 1);
        x.reach(1, 3);
        checks.dueTuples("reached", x, 1, 0x110, 0x1f0, 0xf10, 0xff0);
    }

    private static void toIsOneOfThose() {
        int[][] all = {{0, 0, 1}, {1, 0, 1}, {0, 0, 0}, {0, 1, 0}};
        for (Maker maker : MAKERS) {
            for (int[] n : all) {
                TupleShelf apart = pairs();
                TupleShelf within = pairs();
                int other = 1 - n[0];
                String before = Shelves.told(within, other);
                String what = maker.name + " to " + n[0] + " of " + n[1] + " and " + n[2];
                long want = maker.making.make(apart, 5, n[1], n[2]);
                checks.due(what, want, maker.making.make(within, n[0], n[1], n[2]));
                checks.due(what, Shelves.told(apart, 5), Shelves.told(within, n[0]));
                checks.due(what + ", the other stays", before, Shelves.told(within, other));
                checks.due(what + ", sources stay", Shelves.toldWhole(pairs()), Shelves.toldWhole(without5(apart)));
            }
        }
    }

    private static TupleShelf without5(TupleShelf x) {
        x.width(5, 1);
        return x;
    }

    private static void widthOfWhatItBecomes() {
        for (Maker maker : MAKERS) {
            for (int before = 1; before <= 3; before++) {
                TupleShelf x = pairs();
                Shelves.fill(x, 5, before, 0xf00, 1, 0xe00, 1);
                maker.making.make(x, 5, 0, 1);
                checks.due(maker.name + " in a place of width " + before, maker.width, x.about(5, 0));
                x.width(5, before);
                x.width(3, 2);
                maker.making.make(x, 5, 3, 3);
                checks.due(maker.name + " of empty ones", maker.width, x.about(5, 0));
            }
        }
    }

    private static void howManyAreIn() {
        for (Maker maker : MAKERS) {
            TupleShelf x = pairs();
            Shelves.fill(x, 5, 3, 0x001, 1, 0x002, 1, 0x003, 1);
            checks.due(maker.name, maker.in, maker.making.make(x, 5, 0, 1));
            checks.due(maker.name + ", so many are there", maker.in, x.about(5, 1));
            x.width(3, 2);
            checks.due(maker.name + " of empty ones", 0, maker.making.make(x, 5, 3, 3));
            checks.due(maker.name + " of empty ones, none is there", 0, x.about(5, 1));
        }
    }

    private static void noRelationComesFirst() {
        TupleShelf x = allOfWidth2();
        x.width(5, 1);
        for (Named each : WRONG_IN_MORE) {
            for (int r : Shelves.NO_RELATIONS) {
                checks.dueThrow(each.name + " " + r, Checks.NO_SUCH, () -> each.with.call(x, r));
            }
        }
    }

    private static void noRelationComesBeforeState() {
        TupleShelf x = joining(7, 43);
        Shelves.fillGrid(x, 2, 16, 0, 10);
        Shelves.fillGrid(x, 3, 16, 1, 10);
        for (int r : Shelves.NO_RELATIONS) {
            checks.dueThrow("join to 301", Checks.NO_SUCH, () -> x.join(r, 0, 1, 0));
            for (int op : new int[] {0, 1, 4}) {
                checks.dueThrow("alter to 320 by " + op, Checks.NO_SUCH, () -> x.alter(r, op, 2, 3));
            }
        }
    }

    private static void argumentComesBeforeState() {
        TupleShelf x = new TupleShelf();
        Shelves.fillRow(x, 0, 0, Shelves.MOST_IN);
        checks.dueThrow("put of no tuple where 300 are in", Checks.ARGUMENT, () -> x.put(0, 4096, 1));
        checks.dueThrow("put of no tuple where 300 are in", Checks.ARGUMENT, () -> x.put(0, -1, 1));
        TupleShelf y = new TupleShelf();
        Shelves.fillGrid(y, 0, 16, 0, 10);
        Shelves.fillGrid(y, 1, 16, 1, 10);
        checks.dueThrow("alter of too many by another op", Checks.ARGUMENT, () -> y.alter(2, 6, 0, 1));
        y.narrow(3, 0, 5);
        y.narrow(4, 0, 1);
        checks.dueThrow("join of too many, on below 0", Checks.ARGUMENT, () -> y.join(2, 4, 3, -1));
        checks.dueThrow("join of too many, on above", Checks.ARGUMENT, () -> y.join(2, 4, 3, 2));
        checks.dueThrow("join of too many, too wide", Checks.ARGUMENT, () -> y.join(2, 3, 3, 0));
        Shelves.fillGrid(y, 5, 16, 1, 14);
        y.narrow(5, 5, 5);
        checks.dueThrow("alter of too many of other widths", Checks.ARGUMENT, () -> y.alter(2, 0, 1, 5));
    }

    private static void moreThan300() {
        TupleShelf x = new TupleShelf();
        Shelves.fillRow(x, 0, 0, Shelves.MOST_IN);
        checks.dueThrow("put of the 301st", Checks.STATE, () -> x.put(0, 300, 1));
        TupleShelf y = new TupleShelf();
        Shelves.fillGrid(y, 0, 16, 0, 10);
        Shelves.fillGrid(y, 1, 14, 1, 10);
        for (int op : new int[] {0, 1, 4}) {
            checks.due("alter to 300 by " + op, 300, y.alter(2, op, 0, 1));
        }
        y.put(1, 0xfff, 1);
        for (int op : new int[] {0, 1, 4}) {
            checks.dueThrow("alter to 301 by " + op, Checks.STATE, () -> y.alter(2, op, 0, 1));
        }
        TupleShelf z = joining(7, 43);
        checks.dueThrow("join to 301", Checks.STATE, () -> z.join(2, 0, 1, 0));
        z.put(1, 42 << 4, -1);
        checks.due("join to 294", 294, z.join(2, 0, 1, 0));
        TupleShelf all = joining(15, 20);
        checks.due("join to 300", 300, all.join(2, 0, 1, 0));
    }

    /** Relation 0 with the first numbers, relation 1 with the first pairs, so many as told. */
    private static TupleShelf joining(int numbers, int pairs) {
        TupleShelf x = new TupleShelf();
        for (int n = 0; n < numbers; n++) {
            x.put(0, n << 8, 1);
        }
        x.width(1, 2);
        for (int n = 0; n < pairs; n++) {
            x.put(1, n << 4, 1);
        }
        return x;
    }

    private static void refusedForMoreThan300ChangesNothing() {
        putToFullChangesNothing();
        alterToMoreChangesNothing();
        for (int to = 0; to < 3; to++) {
            TupleShelf x = joining(7, 43);
            int target = to;
            Shelves.fill(x, 2, 3, 0x777, 7);
            String before = Shelves.toldWhole(x);
            checks.dueThrow("join into " + to, Checks.STATE, () -> x.join(target, 0, 1, 0));
            checks.due("join into " + to, before, Shelves.toldWhole(x));
            checks.due("a call behind it", 1, x.turn(3, 2));
            checks.dueContent("a call behind it", x, 3, 0x777, 7);
        }
    }

    private static void putToFullChangesNothing() {
        TupleShelf x = new TupleShelf();
        Shelves.fillRow(x, 0, 1000, Shelves.MOST_IN);
        Shelves.copy(x, 1, 0);
        for (int t : new int[] {0, 999, 1300, 4095}) {
            checks.dueThrow("put " + t, Checks.STATE, () -> x.put(0, t, 1));
            checks.due("put " + t + " leaves it", true, x.same(0, 1));
            checks.due("put " + t + " has no count", 0, x.count(0, t));
        }
        x.put(0, 1000, -1);
        checks.due("a put that has room then", 5, x.put(0, 4095, 5));
    }

    private static void alterToMoreChangesNothing() {
        TupleShelf x = new TupleShelf();
        Shelves.fillGrid(x, 0, 16, 0, 10);
        Shelves.fillGrid(x, 1, 16, 1, 10);
        Shelves.fill(x, 2, 1, 0x700, 7);
        for (int r = 0; r < 3; r++) {
            Shelves.copy(x, 3 + r, r);
        }
        for (int op : new int[] {0, 1, 4}) {
            for (int to = 0; to < 3; to++) {
                int target = to;
                String what = "alter into " + to + " by " + op;
                checks.dueThrow(what, Checks.STATE, () -> x.alter(target, op, 0, 1));
                for (int r = 0; r < 3; r++) {
                    checks.due(what + " leaves " + r, true, x.same(r, 3 + r));
                }
            }
        }
        checks.due("a call behind it", 1, x.turn(6, 2));
        checks.dueContent("a call behind it", x, 6, 0x700, 7);
    }

    private static void refusedForRelationChangesNothing() {
        for (Named each : EACH_RELATION) {
            TupleShelf x = allOfWidth2();
            String before = Shelves.toldWhole(x);
            checks.dueThrow(each.name, Checks.NO_SUCH, () -> each.with.call(x, 8));
            checks.due(each.name, before, Shelves.toldWhole(x));
        }
    }

    private static void refusedForArgumentChangesNothing() {
        for (Named each : WRONG_ARGUMENTS) {
            for (int r = 0; r <= 3; r++) {
                int relation = r;
                TupleShelf x = Shelves.with(0, 2, 0x110, 2, 0x120, 3);
                Shelves.fill(x, 1, 1, 0x100, 5);
                Shelves.fill(x, 2, 3, 0x111, 7, 0x222, -7);
                Shelves.fill(x, 3, 2, 0x550, 9);
                String before = Shelves.toldWhole(x);
                checks.dueThrow(each.name, Checks.ARGUMENT, () -> each.with.call(x, relation));
                checks.due(each.name + " of " + r, before, Shelves.toldWhole(x));
            }
        }
    }
}
