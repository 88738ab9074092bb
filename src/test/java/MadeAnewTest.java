/** The boundary cases that promises 6 to 11 name, a test for each. */
public final class MadeAnewTest {
    private static final int MIN = Shelves.MIN;
    private static final int MAX = Shelves.MAX;

    private static final Checks checks = new Checks();

    public static void main(String[] args) {
        checks.test("6: whose first NUMBERS, so many as on, are the last ones of that of a",
            MadeAnewTest::joinOfTheFirstWithTheLast);
        checks.test("6: so many as on: 0", MadeAnewTest::joinOn0);
        checks.test("6: so many as on: all of a WIDTH", MadeAnewTest::joinOnAll);
        checks.test("6: For each TUPLE IN a and each IN b: without any", MadeAnewTest::joinOfEmptyOnes);
        checks.test("6: the NUMBERS of both behind one another, those once", MadeAnewTest::joinedNumbersOnce);
        checks.test("6: the COUNTS multiplied", MadeAnewTest::joinedCounts);
        checks.test("6: IllegalArgumentException: on is below 0", MadeAnewTest::joinOnBelow0);
        checks.test("6: IllegalArgumentException: on is above a WIDTH of both", MadeAnewTest::joinOnAboveAWidth);
        checks.test("6: IllegalArgumentException: the new WIDTH is above 3", MadeAnewTest::joinTooWide);
        checks.test("6: IllegalStateException: more than 300 would be IN", MadeAnewTest::joinOfMoreThan300);
        checks.test("7: the NUMBERS whose places mask has (bit 0: the first one)", MadeAnewTest::narrowToPlaces);
        checks.test("7: COUNTS of those that become the same are added", MadeAnewTest::narrowAddsCounts);
        checks.test("7: IllegalArgumentException: mask has no place", MadeAnewTest::narrowToNoPlace);
        checks.test("7: IllegalArgumentException: mask has another place than the WIDTH has",
            MadeAnewTest::narrowToAnotherPlace);
        checks.test("8: Those IN a whose NUMBER at a place (from 0) is v", MadeAnewTest::pickAtAPlace);
        checks.test("8: with their COUNTS", MadeAnewTest::pickWithCounts);
        checks.test("8: IllegalArgumentException: no such place", MadeAnewTest::pickAtNoPlace);
        checks.test("8: IllegalArgumentException: v is no NUMBER", MadeAnewTest::pickOfNoNumber);
        checks.test("9: 0: those of a and b added", MadeAnewTest::alterAdded);
        checks.test("9: 1: those of b taken from those of a", MadeAnewTest::alterTaken);
        checks.test("9: 2: of a where IN b", MadeAnewTest::alterWhereIn);
        checks.test("9: 3: of a where not IN b", MadeAnewTest::alterWhereNotIn);
        checks.test("9: 4: 1 for each IN a or b", MadeAnewTest::alterOneForEach);
        checks.test("9: 5: the lesser one of those IN both", MadeAnewTest::alterTheLesser);
        checks.test("9: COUNTS by op: without any", MadeAnewTest::alterOfEmptyOnes);
        checks.test("9: IllegalArgumentException: another op", MadeAnewTest::alterByAnotherOp);
        checks.test("9: IllegalArgumentException: WIDTHS that are not the same", MadeAnewTest::alterOfOtherWidths);
        checks.test("9: IllegalStateException: more than 300 would be IN", MadeAnewTest::alterOfMoreThan300);
        checks.test("9: more than 300 would be IN: those that are 0 then are not",
            MadeAnewTest::alterOf300AndSomeThatAre0);
        checks.test("9: not more than 300 would be IN", MadeAnewTest::alterNeverOfMoreThanA);
        checks.test("10: a way from x to y, of one step or more: one", MadeAnewTest::reachByOneStep);
        checks.test("10: a way from x to y, of one step or more: more", MadeAnewTest::reachByMoreSteps);
        checks.test("10: a way from x to y: to x itself", MadeAnewTest::reachItself);
        checks.test("10: whose steps are IN a", MadeAnewTest::reachByStepsThatAreIn);
        checks.test("10: COUNT 1 for each pair", MadeAnewTest::reachWithCount1);
        checks.test("10: IllegalArgumentException: the WIDTH is not 2", MadeAnewTest::reachOfOtherWidths);
        checks.test("11: The NUMBERS of each TUPLE IN a the other way round", MadeAnewTest::turnNumbers);
        checks.test("11: of each TUPLE IN a: none, 300", MadeAnewTest::turnOfEmptyAndFullOnes);
        checks.finish();
    }

    /** Relation 1 of width 1, 2 of width 2, 3 of width 3, each with one tuple of only 1s; 4 to be made. */
    private static TupleShelf ofEachWidth() {
        TupleShelf x = Shelves.with(1, 1, 0x100, 1);
        Shelves.fill(x, 2, 2, 0x110, 1);
        Shelves.fill(x, 3, 3, 0x111, 1);
        Shelves.fill(x, 4, 2, 0x550, 5);
        return x;
    }

    private static void joinOfTheFirstWithTheLast() {
        TupleShelf x = Shelves.with(0, 2, 0x120, 1);
        Shelves.fill(x, 1, 2, 0x150, 1, 0x210, 1, 0x2f0, 1, 0x320, 1);
        checks.due("on 1", 2, x.join(5, 0, 1, 1));
        checks.dueTuples("on 1", x, 5, 0x121, 0x12f);
        checks.due("on 1, the other way", 1, x.join(5, 1, 0, 1));
        checks.dueTuples("on 1, the other way", x, 5, 0x212);
        Shelves.fill(x, 2, 3, 0x123, 1, 0x132, 1, 0x023, 1);
        Shelves.fill(x, 3, 2, 0x230, 1, 0x320, 1, 0x120, 1);
        checks.due("on 2 in their order", 3, x.join(5, 2, 3, 2));
        checks.dueTuples("on 2 in their order", x, 5, 0x023, 0x123, 0x132);
        Shelves.fill(x, 4, 1, 0x900, 1);
        checks.due("none fits", 0, x.join(5, 0, 4, 1));
        Shelves.fill(x, 4, 2, 0xf00, 1, 0x0f0, 1);
        checks.due("the least and the greatest number", 2, x.join(5, 4, 4, 1));
        checks.dueTuples("the least and the greatest number", x, 5, 0x0f0, 0xf0f);
    }

    private static void joinOn0() {
        TupleShelf x = Shelves.with(0, 1, 0x000, 2, 0xf00, 3);
        Shelves.fill(x, 1, 2, 0x140, 5, 0x240, 7);
        checks.due("1 and 1", 4, x.join(5, 0, 0, 0));
        checks.dueContent("1 and 1", x, 5, 0x000, 4, 0x0f0, 6, 0xf00, 6, 0xff0, 9);
        checks.due("1 and 2", 4, x.join(5, 0, 1, 0));
        checks.dueContent("1 and 2", x, 5, 0x014, 10, 0x024, 14, 0xf14, 15, 0xf24, 21);
        checks.due("2 and 1", 4, x.join(5, 1, 0, 0));
        checks.dueContent("2 and 1", x, 5, 0x140, 10, 0x14f, 15, 0x240, 14, 0x24f, 21);
    }

    private static void joinOnAll() {
        TupleShelf x = Shelves.with(1, 1, 0x100, 2, 0x200, 3);
        Shelves.fill(x, 2, 2, 0x210, 5, 0x120, 7);
        Shelves.fill(x, 3, 3, 0x121, 11, 0x212, 13, 0x333, 17);
        checks.due("1 and 1 on 1", 2, x.join(5, 1, 1, 1));
        checks.dueContent("1 and 1 on 1", x, 5, 0x100, 4, 0x200, 9);
        checks.due("2 and 2 on 2", 2, x.join(5, 2, 2, 2));
        checks.dueContent("2 and 2 on 2", x, 5, 0x120, 49, 0x210, 25);
        checks.due("3 and 3 on 3", 3, x.join(5, 3, 3, 3));
        checks.dueContent("3 and 3 on 3", x, 5, 0x121, 121, 0x212, 169, 0x333, 289);
        checks.due("1 and 3 on 1", 2, x.join(5, 1, 3, 1));
        checks.dueContent("1 and 3 on 1", x, 5, 0x121, 22, 0x212, 39);
        checks.due("3 and 1 on 1", 2, x.join(5, 3, 1, 1));
        checks.dueContent("3 and 1 on 1", x, 5, 0x121, 22, 0x212, 39);
        checks.due("2 and 3 on 2", 2, x.join(5, 2, 3, 2));
        checks.dueContent("2 and 3 on 2", x, 5, 0x121, 77, 0x212, 65);
        checks.due("3 and 2 on 2", 2, x.join(5, 3, 2, 2));
        checks.dueContent("3 and 2 on 2", x, 5, 0x121, 55, 0x212, 91);
    }

    private static void joinOfEmptyOnes() {
        TupleShelf x = ofEachWidth();
        Shelves.fill(x, 5, 3, 0x123, 1);
        checks.due("a is empty", 0, x.join(5, 0, 1, 0));
        checks.due("its width", 2, x.about(5, 0));
        checks.due("nothing is left in", 0, x.about(5, 1));
        checks.due("b is empty", 0, x.join(5, 2, 0, 0));
        checks.due("its width", 3, x.about(5, 0));
        checks.due("both are empty", 0, x.join(5, 0, 0, 1));
        checks.due("its width", 1, x.about(5, 0));
    }

    /** The tuple of so many numbers, the first one and those that follow it. */
    private static int numbersFrom(int first, int howMany) {
        int tuple = 0;
        for (int i = 0; i < howMany; i++) {
            tuple |= first + i << 8 - 4 * i;
        }
        return tuple;
    }

    private static void joinedNumbersOnce() {
        for (int a = 1; a <= 3; a++) {
            for (int b = 1; b <= 3; b++) {
                for (int on = Math.max(0, a + b - 3); on <= Math.min(a, b); on++) {
                    int wide = a + b - on;
                    String what = "widths " + a + " and " + b + " on " + on;
                    TupleShelf x = Shelves.with(0, a, numbersFrom(1, a), 1);
                    Shelves.fill(x, 1, b, numbersFrom(1 + a - on, b), 1);
                    checks.due(what, 1, x.join(2, 0, 1, on));
                    checks.due(what + ", width", wide, x.about(2, 0));
                    checks.dueContent(what, x, 2, numbersFrom(1, wide), 1);
                }
            }
        }
    }

    private static void joinedCounts() {
        int[][] all = {{2, 3, 6}, {-2, 3, -6}, {-2, -3, 6}, {MIN, -1, MIN}, {MIN, 1, MIN}, {MAX, MAX, 1},
            {MAX, -1, -MAX}, {MAX, 2, -2}, {1 << 15, 1 << 16, MIN}, {65537, 65537, 131073}};
        for (int[] n : all) {
            TupleShelf x = Shelves.with(0, 1, 0x100, n[0]);
            Shelves.fill(x, 1, 1, 0x100, n[1]);
            checks.due(n[0] + " by " + n[1], 1, x.join(2, 0, 1, 1));
            checks.dueContent(n[0] + " by " + n[1], x, 2, 0x100, n[2]);
        }
        for (int[] n : new int[][] {{1 << 16, 1 << 16}, {MIN, 2}, {MIN, MIN}, {-(1 << 16), 1 << 17}}) {
            TupleShelf x = Shelves.with(0, 1, 0x100, n[0]);
            Shelves.fill(x, 1, 1, 0x100, n[1]);
            checks.due(n[0] + " by " + n[1] + " wraps to 0", 0, x.join(2, 0, 1, 1));
            checks.dueContent(n[0] + " by " + n[1] + " wraps to 0", x, 2);
        }
    }

    private static void dueRefusedJoin(int a, int b, int on) {
        TupleShelf x = ofEachWidth();
        String what = "widths " + a + " and " + b + " on " + on;
        checks.dueThrow(what, Checks.ARGUMENT, () -> x.join(4, a, b, on));
        checks.due(what, "width 2 [1360, 5]", Shelves.told(x, 4));
    }

    private static void joinOnBelow0() {
        for (int a = 1; a <= 3; a++) {
            for (int b = 1; b <= 3; b++) {
                dueRefusedJoin(a, b, -1);
                dueRefusedJoin(a, b, MIN);
            }
        }
    }

    private static void joinOnAboveAWidth() {
        for (int a = 1; a <= 3; a++) {
            for (int b = 1; b <= 3; b++) {
                for (int on = Math.min(a, b) + 1; on <= 7; on++) {
                    dueRefusedJoin(a, b, on);
                }
                dueRefusedJoin(a, b, MAX);
            }
        }
    }

    private static void joinTooWide() {
        int[][] all = {{2, 2, 0}, {1, 3, 0}, {3, 1, 0}, {2, 3, 1}, {3, 2, 1}, {3, 3, 2}, {2, 3, 0}, {3, 2, 0},
            {3, 3, 1}, {3, 3, 0}};
        for (int[] n : all) {
            dueRefusedJoin(n[0], n[1], n[2]);
        }
        TupleShelf x = new TupleShelf();
        x.width(1, 2);
        checks.dueThrow("of empty ones too", Checks.ARGUMENT, () -> x.join(0, 1, 1, 0));
    }

    private static void joinOfMoreThan300() {
        TupleShelf x = Shelves.with(1, 2);
        for (int n = 0; n < 16; n++) {
            x.put(0, n << 8, 1);
        }
        for (int n = 0; n < 20; n++) {
            x.put(1, n << 4, 1);
        }
        checks.dueThrow("320", Checks.STATE, () -> x.join(2, 0, 1, 0));
        checks.dueThrow("320 the other way", Checks.STATE, () -> x.join(2, 1, 0, 0));
        checks.due("2 stays", "width 1 []", Shelves.told(x, 2));
        x.put(0, 0xf00, -1);
        checks.due("300", 300, x.join(2, 0, 1, 0));
        x.put(0, 0xf00, 1 << 16);
        for (int n = 0; n < 20; n++) {
            x.put(1, n << 4, (1 << 16) - 1);
        }
        checks.due("320, of which 20 are 0", 300, x.join(2, 0, 1, 0));
        x.put(1, 0x000, 1);
        checks.dueThrow("301, with 19 that are 0", Checks.STATE, () -> x.join(2, 0, 1, 0));
    }

    private static void narrowToPlaces() {
        int[] whole = {0, 0x100, 0x120, 0x123};
        int[] byMask = {0, 0x100, 0x200, 0x120, 0x300, 0x130, 0x230, 0x123};
        for (int w = 1; w <= 3; w++) {
            for (int mask = 1; mask < 1 << w; mask++) {
                TupleShelf x = Shelves.with(0, w, whole[w], -7);
                checks.due("width " + w + " mask " + mask, 1, x.narrow(1, 0, mask));
                checks.dueContent("width " + w + " mask " + mask, x, 1, byMask[mask], -7);
                checks.due("width then", Integer.bitCount(mask), x.about(1, 0));
                x.width(0, w);
                checks.due("of an empty one", 0, x.narrow(1, 0, mask));
                checks.due("width then too", Integer.bitCount(mask), x.about(1, 0));
            }
        }
    }

    private static void narrowAddsCounts() {
        TupleShelf x = Shelves.with(0, 2, 0x120, MAX, 0x130, 1, 0x140, 1, 0x250, 9);
        checks.due("a sum that wraps", 2, x.narrow(1, 0, 1));
        checks.dueContent("a sum that wraps", x, 1, 0x100, MIN + 1, 0x200, 9);
        Shelves.fill(x, 0, 2, 0x120, 4, 0x130, -4);
        checks.due("a sum of 0", 0, x.narrow(1, 0, 1));
        Shelves.fill(x, 0, 2, 0x120, MIN, 0x130, MIN);
        checks.due("a sum that wraps to 0", 0, x.narrow(1, 0, 1));
        Shelves.fill(x, 0, 2, 0x120, 4, 0x130, -4, 0x140, 6);
        checks.due("0 on the way", 1, x.narrow(1, 0, 1));
        checks.dueContent("0 on the way", x, 1, 0x100, 6);
        Shelves.fill(x, 0, 3, 0x123, 1, 0x153, 2, 0x124, 4);
        x.narrow(1, 0, 5);
        checks.dueContent("apart from one another in a", x, 1, 0x130, 3, 0x140, 4);
        TupleShelf full = new TupleShelf();
        Shelves.fillGrid(full, 0, 15, 9, 16);
        checks.due("240 to one", 1, full.narrow(1, 0, 2));
        checks.dueContent("240 to one", full, 1, 0x900, 240);
        Shelves.fillRow(full, 0, 1000, Shelves.MOST_IN);
        checks.due("300 stay 300", 300, full.narrow(1, 0, 7));
        checks.due("300 stay the same", true, full.same(0, 1));
    }

    private static void dueRefusedNarrow(int a, int mask) {
        TupleShelf x = ofEachWidth();
        checks.dueThrow("width " + a + " mask " + mask, Checks.ARGUMENT, () -> x.narrow(4, a, mask));
        checks.due("width " + a + " mask " + mask, "width 2 [1360, 5]", Shelves.told(x, 4));
    }

    private static void narrowToNoPlace() {
        for (int a = 1; a <= 3; a++) {
            dueRefusedNarrow(a, 0);
        }
    }

    private static void narrowToAnotherPlace() {
        for (int a = 1; a <= 3; a++) {
            for (int bit = a; bit < 32; bit++) {
                dueRefusedNarrow(a, 1 << bit);
                dueRefusedNarrow(a, 1 << bit | 1);
            }
            dueRefusedNarrow(a, -1);
            dueRefusedNarrow(a, MAX);
        }
    }

    private static void pickAtAPlace() {
        TupleShelf x = Shelves.with(0, 3, 0x0ff, 1, 0xf0f, 2, 0xff0, 3);
        int[] zeroes = {0x0ff, 0xf0f, 0xff0};
        for (int place = 0; place < 3; place++) {
            checks.due("0 at " + place, 1, x.pick(1, 0, place, 0));
            checks.dueContent("0 at " + place, x, 1, zeroes[place], place + 1);
            checks.due("15 at " + place, 2, x.pick(1, 0, place, 15));
            checks.due("none has 7 at " + place, 0, x.pick(1, 0, place, 7));
            checks.due("its width", 3, x.about(1, 0));
        }
        checks.due("of an empty one", 0, x.pick(1, 2, 0, 0));
        Shelves.fill(x, 2, 1, 0x500, 1);
        checks.due("the one place of width 1", 1, x.pick(1, 2, 0, 5));
        Shelves.fill(x, 2, 2, 0x560, 1, 0x650, 1);
        checks.due("the last place of width 2", 1, x.pick(1, 2, 1, 5));
        checks.dueContent("the last place of width 2", x, 1, 0x650, 1);
        TupleShelf all = new TupleShelf();
        Shelves.fillGrid(all, 0, 16, 9, 16);
        checks.due("all", 256, all.pick(1, 0, 1, 9));
    }

    private static void pickWithCounts() {
        TupleShelf x = Shelves.with(0, 2, 0x120, MIN, 0x130, -1, 0x140, MAX, 0x250, 5);
        x.pick(1, 0, 0, 1);
        checks.dueContent("those of 1", x, 1, 0x120, MIN, 0x130, -1, 0x140, MAX);
    }

    private static void dueRefusedPick(int a, int place, int v) {
        TupleShelf x = ofEachWidth();
        String what = "width " + a + " place " + place + " number " + v;
        checks.dueThrow(what, Checks.ARGUMENT, () -> x.pick(4, a, place, v));
        checks.due(what, "width 2 [1360, 5]", Shelves.told(x, 4));
    }

    private static void pickAtNoPlace() {
        for (int a = 1; a <= 3; a++) {
            for (int place : new int[] {-1, a, a + 1, 3, 8, MIN, MAX}) {
                dueRefusedPick(a, place, 1);
                dueRefusedPick(a, place, 0);
            }
        }
    }

    private static void pickOfNoNumber() {
        for (int a = 1; a <= 3; a++) {
            for (int v : new int[] {-1, 16, 17, 256, MIN, MAX}) {
                dueRefusedPick(a, 0, v);
                dueRefusedPick(a, a - 1, v);
                dueRefusedPick(a, a, v);
            }
        }
    }

    /** In a alone, in b alone, in both: with counts that are the same, less, more, and of other signs. */
    private static TupleShelf altering() {
        TupleShelf x = Shelves.with(0, 3, 0x001, 4, 0x003, 5, 0x004, 6, 0x005, 7, 0x006, MIN, 0x007, MAX, 0x008, -3);
        Shelves.fill(x, 1, 3, 0x002, 8, 0x003, 5, 0x004, -6, 0x005, 9, 0x006, MIN, 0x007, -1, 0x008, -4);
        return x;
    }

    private static void dueAltered(int op, int... want) {
        TupleShelf x = altering();
        checks.due("how many", want.length / 2, x.alter(2, op, 0, 1));
        checks.dueContent("which", x, 2, want);
        checks.due("width", 3, x.about(2, 0));
    }

    private static void alterAdded() {
        dueAltered(0, 0x001, 4, 0x002, 8, 0x003, 10, 0x005, 16, 0x007, MAX - 1, 0x008, -7);
        TupleShelf x = Shelves.with(0, 1, 0x100, MAX, 0x200, MIN);
        checks.due("to itself, wrapping", 1, x.alter(1, 0, 0, 0));
        checks.dueContent("to itself, wrapping", x, 1, 0x100, -2);
    }

    private static void alterTaken() {
        dueAltered(1, 0x001, 4, 0x002, -8, 0x004, 12, 0x005, -2, 0x007, MIN, 0x008, 1);
        TupleShelf x = Shelves.with(0, 1, 0x100, MAX, 0x200, MIN);
        checks.due("from itself", 0, x.alter(1, 1, 0, 0));
        checks.due("from none", 2, x.alter(1, 1, 2, 0));
        checks.dueContent("from none", x, 1, 0x100, -MAX, 0x200, MIN);
    }

    private static void alterWhereIn() {
        dueAltered(2, 0x003, 5, 0x004, 6, 0x005, 7, 0x006, MIN, 0x007, MAX, 0x008, -3);
    }

    private static void alterWhereNotIn() {
        dueAltered(3, 0x001, 4);
        TupleShelf x = Shelves.with(0, 1, 0x100, MAX, 0x200, MIN);
        checks.due("of itself", 0, x.alter(1, 3, 0, 0));
    }

    private static void alterOneForEach() {
        dueAltered(4, 0x001, 1, 0x002, 1, 0x003, 1, 0x004, 1, 0x005, 1, 0x006, 1, 0x007, 1, 0x008, 1);
    }

    private static void alterTheLesser() {
        dueAltered(5, 0x003, 5, 0x004, -6, 0x005, 7, 0x006, MIN, 0x007, -1, 0x008, -4);
        TupleShelf x = Shelves.with(0, 1, 0x100, MIN, 0x200, -1);
        Shelves.fill(x, 1, 1, 0x100, MAX, 0x200, MIN);
        checks.due("with their signs", 2, x.alter(2, 5, 0, 1));
        checks.dueContent("with their signs", x, 2, 0x100, MIN, 0x200, MIN);
        Shelves.fill(x, 3, 1, 0x100, -5);
        checks.due("below 0 in a alone is not lesser than 0", 0, x.alter(2, 5, 3, 4));
        checks.due("below 0 in b alone is not lesser than 0", 0, x.alter(2, 5, 4, 3));
    }

    private static void alterOfEmptyOnes() {
        int[] ofNone = {1, 1, 0, 0, 1, 0};
        int[] withNone = {1, 1, 0, 1, 1, 0};
        for (int op = 0; op < 6; op++) {
            TupleShelf x = Shelves.with(0, 2, 0x120, 5);
            x.width(1, 2);
            checks.due("a is empty, by " + op, ofNone[op], x.alter(2, op, 1, 0));
            checks.due("b is empty, by " + op, withNone[op], x.alter(2, op, 0, 1));
            checks.due("both are empty, by " + op, 0, x.alter(2, op, 1, 1));
            checks.due("its width, by " + op, 2, x.about(2, 0));
        }
    }

    private static void alterByAnotherOp() {
        for (int op : new int[] {-1, 6, 7, 8, MIN, MAX}) {
            TupleShelf x = ofEachWidth();
            checks.dueThrow("op " + op, Checks.ARGUMENT, () -> x.alter(4, op, 2, 2));
            checks.due("op " + op, "width 2 [1360, 5]", Shelves.told(x, 4));
        }
    }

    private static void alterOfOtherWidths() {
        for (int op = 0; op < 6; op++) {
            for (int n = 0; n < 9; n++) {
                int a = n / 3 + 1;
                int b = n % 3 + 1;
                int by = op;
                TupleShelf x = ofEachWidth();
                String what = "widths " + a + " and " + b + " by " + op;
                if (a == b) {
                    checks.dueNoThrow(what, () -> x.alter(4, by, a, b));
                } else {
                    checks.dueThrow(what, Checks.ARGUMENT, () -> x.alter(4, by, a, b));
                    checks.due(what, "width 2 [1360, 5]", Shelves.told(x, 4));
                }
            }
        }
        TupleShelf x = new TupleShelf();
        x.width(1, 2);
        checks.dueThrow("of empty ones too", Checks.ARGUMENT, () -> x.alter(2, 0, 0, 1));
    }

    private static void alterOfMoreThan300() {
        for (int op : new int[] {0, 1, 4}) {
            TupleShelf x = new TupleShelf();
            Shelves.fillGrid(x, 0, 16, 0, 10);
            Shelves.fillGrid(x, 1, 14, 1, 10);
            checks.due("300 by " + op, 300, x.alter(2, op, 0, 1));
            x.put(0, 0x080, 1);
            checks.dueThrow("301 by " + op + ", one more of a", Checks.STATE, () -> x.alter(2, op, 0, 1));
            x.put(0, 0x080, -1);
            x.put(1, 0xff0, 1);
            checks.dueThrow("301 by " + op + ", one more of b", Checks.STATE, () -> x.alter(2, op, 0, 1));
            x.put(1, 0xff0, -1);
            x.put(1, 0x000, 7);
            checks.due("300 by " + op + ", one of them in both", 300, x.alter(2, op, 0, 1));
        }
    }

    private static void alterOf300AndSomeThatAre0() {
        TupleShelf x = new TupleShelf();
        Shelves.fillGrid(x, 0, 16, 0, 10);
        Shelves.fillGrid(x, 1, 15, 1, 10);
        for (int n = 0; n < 10; n++) {
            x.put(1, n, -1);
        }
        checks.due("310 by 0, of which ten are 0", 300, x.alter(3, 0, 0, 1));
        checks.dueThrow("310 by 1", Checks.STATE, () -> x.alter(3, 1, 0, 1));
        checks.dueThrow("310 by 4", Checks.STATE, () -> x.alter(3, 4, 0, 1));
        for (int n = 0; n < 10; n++) {
            x.put(1, n, 2);
        }
        checks.due("310 by 1, of which ten are 0", 300, x.alter(3, 1, 0, 1));
        checks.dueThrow("310 by 0", Checks.STATE, () -> x.alter(3, 0, 0, 1));
    }

    // By 2, 3 and 5 nothing is in that is not in a, however many a and b have together.
    private static void alterNeverOfMoreThanA() {
        TupleShelf x = new TupleShelf();
        Shelves.fillRow(x, 0, 0, Shelves.MOST_IN);
        Shelves.fillGrid(x, 1, 16, 0, 15);
        checks.due("by 2", 30, x.alter(2, 2, 0, 1));
        checks.due("by 3", 270, x.alter(2, 3, 0, 1));
        checks.due("by 5", 30, x.alter(2, 5, 0, 1));
        for (int op : new int[] {0, 2, 4, 5}) {
            checks.due("300 with itself by " + op, 300, x.alter(2, op, 0, 0));
        }
    }

    private static void dueReached(String what, TupleShelf x, int... want) {
        checks.due(what, want.length, x.reach(7, 0));
        checks.dueTuples(what, x, 7, want);
    }

    private static void reachByOneStep() {
        dueReached("none", Shelves.with(0, 2));
        dueReached("one", Shelves.with(0, 2, 0x120, 1), 0x120);
        dueReached("the least and the greatest", Shelves.with(0, 2, 0x0f0, 1), 0x0f0);
        dueReached("two apart", Shelves.with(0, 2, 0x120, 1, 0x340, 1), 0x120, 0x340);
        dueReached("two to the same", Shelves.with(0, 2, 0x130, 1, 0x230, 1), 0x130, 0x230);
        dueReached("two from the same", Shelves.with(0, 2, 0x120, 1, 0x130, 1), 0x120, 0x130);
    }

    private static void reachByMoreSteps() {
        dueReached("two", Shelves.with(0, 2, 0x120, 1, 0x230, 1), 0x120, 0x130, 0x230);
        TupleShelf up = Shelves.with(0, 2);
        TupleShelf down = Shelves.with(0, 2);
        TupleShelf aside = Shelves.with(0, 2);
        for (int n = 0; n < 15; n++) {
            up.put(0, n << 8 | n + 1 << 4, 1);
            down.put(0, n + 1 << 8 | n << 4, 1);
            aside.put(0, n * 7 % 16 << 8 | (n + 1) * 7 % 16 << 4, 1);
        }
        checks.due("fifteen upwards", 120, up.reach(1, 0));
        checks.due("from 0 to 15", 1, up.count(1, 0x0f0));
        checks.due("not from 15 to 0", 0, up.count(1, 0xf00));
        checks.due("fifteen downwards", 120, down.reach(1, 0));
        checks.due("from 15 to 0", 1, down.count(1, 0xf00));
        checks.due("fifteen to and fro", 120, aside.reach(1, 0));
        checks.due("from the first to the last", 1, aside.count(1, 0x090));
    }

    private static void reachItself() {
        dueReached("no step is no way", Shelves.with(0, 2, 0x120, 1), 0x120);
        dueReached("by one step", Shelves.with(0, 2, 0x550, 1), 0x550);
        dueReached("by two", Shelves.with(0, 2, 0x120, 1, 0x210, 1), 0x110, 0x120, 0x210, 0x220);
        dueReached("not from before the ring", Shelves.with(0, 2, 0x120, 1, 0x220, 1), 0x120, 0x220);
        TupleShelf ring = Shelves.with(0, 2);
        for (int n = 0; n < 16; n++) {
            ring.put(0, n << 8 | (n + 5 & 15) << 4, 1);
        }
        checks.due("by sixteen", 256, ring.reach(1, 0));
        checks.due("the least to itself", 1, ring.count(1, 0x000));
        checks.due("the greatest to itself", 1, ring.count(1, 0xff0));
    }

    private static void reachByStepsThatAreIn() {
        dueReached("below 0 are steps too", Shelves.with(0, 2, 0x120, -1, 0x230, MIN), 0x120, 0x130, 0x230);
        TupleShelf x = Shelves.with(0, 2, 0x120, 5, 0x230, 5, 0x340, 5);
        x.put(0, 0x230, -5);
        dueReached("one that is out is none", x, 0x120, 0x340);
        Shelves.fill(x, 1, 2, 0x230, 1);
        dueReached("one that is in another is none", x, 0x120, 0x340);
        x.width(0, 2);
        dueReached("none is left of the call before", x);
    }

    private static void reachWithCount1() {
        TupleShelf x = Shelves.with(0, 2, 0x120, 5, 0x240, -7, 0x130, MAX, 0x340, MIN, 0x140, 3);
        x.reach(1, 0);
        checks.dueContent("by several ways", x, 1, 0x120, 1, 0x130, 1, 0x140, 1, 0x240, 1, 0x340, 1);
    }

    private static void reachOfOtherWidths() {
        for (int a : new int[] {1, 3}) {
            TupleShelf x = ofEachWidth();
            checks.dueThrow("width " + a, Checks.ARGUMENT, () -> x.reach(4, a));
            checks.due("width " + a, "width 2 [1360, 5]", Shelves.told(x, 4));
        }
        TupleShelf x = ofEachWidth();
        checks.dueThrow("of an empty one too", Checks.ARGUMENT, () -> x.reach(4, 0));
        checks.due("the width of to is free", 1, x.reach(3, 2));
    }

    private static void turnNumbers() {
        TupleShelf x = Shelves.with(0, 3, 0x123, 2, 0x321, 3, 0x900, MIN, 0x121, 7, 0x00f, -1);
        checks.due("three", 5, x.turn(1, 0));
        checks.dueContent("three", x, 1, 0x009, MIN, 0x121, 7, 0x123, 3, 0x321, 2, 0xf00, -1);
        Shelves.fill(x, 2, 2, 0x120, 4, 0xf00, 5, 0x330, 6);
        checks.due("two", 3, x.turn(1, 2));
        checks.dueContent("two", x, 1, 0x0f0, 5, 0x210, 4, 0x330, 6);
        Shelves.fill(x, 3, 1, 0x500, 6, 0x000, 7);
        checks.due("one", 2, x.turn(1, 3));
        checks.dueContent("one", x, 1, 0x000, 7, 0x500, 6);
    }

    private static void turnOfEmptyAndFullOnes() {
        TupleShelf x = ofEachWidth();
        x.width(0, 3);
        checks.due("none", 0, x.turn(4, 0));
        checks.due("none, width", "width 3 []", Shelves.told(x, 4));
        Shelves.fillRow(x, 0, 500, Shelves.MOST_IN);
        checks.due("300", 300, x.turn(1, 0));
        checks.due("300, not the same", false, x.same(0, 1));
        checks.due("300 back", 300, x.turn(1, 1));
        checks.due("300 back, the same", true, x.same(0, 1));
    }
}
