/** Each promise of the document with ordinary inputs; the boundary cases have tests of their own. */
public final class PromiseTest {
    private static final Checks checks = new Checks();

    public static void main(String[] args) {
        checks.test("2 width", PromiseTest::width);
        checks.test("3 put", PromiseTest::put);
        checks.test("4 count", PromiseTest::count);
        checks.test("5 at", PromiseTest::at);
        checks.test("6 join", PromiseTest::join);
        checks.test("7 narrow", PromiseTest::narrow);
        checks.test("8 pick", PromiseTest::pick);
        checks.test("9 alter", PromiseTest::alter);
        checks.test("10 reach", PromiseTest::reach);
        checks.test("11 turn", PromiseTest::turn);
        checks.test("12 about", PromiseTest::about);
        checks.test("13 same", PromiseTest::same);
        checks.test("6 to 13, of a relation that had more in before", PromiseTest::afterMore);
        checks.finish();
    }

    private static void width() {
        TupleShelf x = Shelves.with(3, 2, 16, 5, 32, -5, 48, 1);
        checks.due("how many were in", 3, x.width(3, 3));
        checks.due("the width then", 3, x.about(3, 0));
        checks.due("nothing in", 0, x.about(3, 1));
        checks.due("no count is left", 0, x.count(3, 16));
        checks.due("1", 0, x.width(3, 1));
        checks.due("1 then", 1, x.about(3, 0));
        checks.due("others stay", 1, x.about(2, 0));
    }

    private static void put() {
        TupleShelf x = new TupleShelf();
        x.width(0, 3);
        checks.due("first", 7, x.put(0, 0x123, 7));
        checks.due("more", 9, x.put(0, 0x123, 2));
        checks.due("less", -1, x.put(0, 0x123, -10));
        checks.due("in with a count below 0", 1, x.about(0, 1));
        checks.due("taken out", 0, x.put(0, 0x123, 1));
        checks.due("out", 0, x.about(0, 1));
        x.put(0, 4095, 1);
        x.put(0, 0, 2);
        x.put(0, 256, 3);
        x.put(0, 255, 4);
        checks.dueContent("in order", x, 0, 0, 2, 255, 4, 256, 3, 4095, 1);
        x.put(0, 255, -4);
        checks.dueContent("one out of the middle", x, 0, 0, 2, 256, 3, 4095, 1);
        checks.due("others stay", 0, x.about(1, 1));
    }

    private static void count() {
        TupleShelf x = Shelves.with(0, 2, 16, 5, 256, -3);
        checks.due("in", 5, x.count(0, 16));
        checks.due("below 0", -3, x.count(0, 256));
        checks.due("not in, between", 0, x.count(0, 32));
        checks.due("not in, before", 0, x.count(0, 0));
        checks.due("not in, behind", 0, x.count(0, 4080));
        checks.due("another relation", 0, x.count(1, 256));
    }

    private static void at() {
        TupleShelf x = Shelves.with(0, 3, 4095, 1, 7, -1, 256, 3);
        checks.dueTuples("order", x, 0, 7, 256, 4095);
        x.put(0, 7, 1);
        checks.due("the next moves up", 256, x.at(0, 0));
    }

    private static void join() {
        TupleShelf x = Shelves.with(0, 2, 0x120, 2, 0x130, 3, 0x450, 5);
        Shelves.fill(x, 1, 2, 0x270, 7, 0x280, -1, 0x390, 11, 0x510, 13, 0x120, 17);
        checks.due("on 1", 4, x.join(2, 0, 1, 1));
        checks.due("width 3", 3, x.about(2, 0));
        checks.dueContent("on 1", x, 2, 0x127, 14, 0x128, -2, 0x139, 33, 0x451, 65);
        checks.due("on 2", 1, x.join(3, 0, 1, 2));
        checks.due("width 2", 2, x.about(3, 0));
        checks.dueContent("on 2", x, 3, 0x120, 34);
        checks.dueContent("a stays", x, 0, 0x120, 2, 0x130, 3, 0x450, 5);
    }

    private static void narrow() {
        TupleShelf x = Shelves.with(0, 3, 0x123, 2, 0x124, 3, 0x153, 5, 0x623, -2, 0xfed, 7);
        int[][] due = {{},
            {0x100, 10, 0x600, -2, 0xf00, 7},
            {0x200, 3, 0x500, 5, 0xe00, 7},
            {0x120, 5, 0x150, 5, 0x620, -2, 0xfe0, 7},
            {0x300, 5, 0x400, 3, 0xd00, 7},
            {0x130, 7, 0x140, 3, 0x630, -2, 0xfd0, 7},
            {0x240, 3, 0x530, 5, 0xed0, 7},
            {0x123, 2, 0x124, 3, 0x153, 5, 0x623, -2, 0xfed, 7}};
        for (int mask = 1; mask < 8; mask++) {
            checks.due("mask " + mask, due[mask].length / 2, x.narrow(1, 0, mask));
            checks.due("width " + mask, Integer.bitCount(mask), x.about(1, 0));
            checks.dueContent("mask " + mask, x, 1, due[mask]);
        }
        Shelves.fill(x, 2, 2, 0x120, 4, 0x220, 5);
        checks.due("second of 2", 1, x.narrow(2, 2, 2));
        checks.dueContent("second of 2, to is a", x, 2, 0x200, 9);
        checks.due("one of 1", 1, x.narrow(3, 2, 1));
        checks.dueContent("one of 1", x, 3, 0x200, 9);
    }

    private static void pick() {
        TupleShelf x = Shelves.with(0, 3, 0x123, 2, 0x124, -3, 0x323, 5, 0xf0f, 7);
        checks.due("first", 2, x.pick(1, 0, 0, 1));
        checks.due("width", 3, x.about(1, 0));
        checks.dueContent("first", x, 1, 0x123, 2, 0x124, -3);
        checks.due("second", 3, x.pick(1, 0, 1, 2));
        checks.dueContent("second", x, 1, 0x123, 2, 0x124, -3, 0x323, 5);
        checks.due("third", 2, x.pick(1, 0, 2, 3));
        checks.dueContent("third", x, 1, 0x123, 2, 0x323, 5);
        checks.due("none", 0, x.pick(1, 0, 0, 9));
        checks.due("to is a", 1, x.pick(0, 0, 0, 3));
        checks.dueContent("to is a", x, 0, 0x323, 5);
    }

    private static void alter() {
        TupleShelf x = Shelves.with(0, 2, 0x010, 1, 0x020, 5, 0x030, -4, 0x040, 2);
        Shelves.fill(x, 1, 2, 0x020, 3, 0x030, 4, 0x040, 2, 0xff0, Integer.MIN_VALUE);
        int[][] due = {
            {0x010, 1, 0x020, 8, 0x040, 4, 0xff0, Integer.MIN_VALUE},
            {0x010, 1, 0x020, 2, 0x030, -8, 0xff0, Integer.MIN_VALUE},
            {0x020, 5, 0x030, -4, 0x040, 2},
            {0x010, 1},
            {0x010, 1, 0x020, 1, 0x030, 1, 0x040, 1, 0xff0, 1},
            {0x020, 3, 0x030, -4, 0x040, 2}};
        for (int op = 0; op < 6; op++) {
            checks.due("op " + op, due[op].length / 2, x.alter(2, op, 0, 1));
            checks.due("width " + op, 2, x.about(2, 0));
            checks.dueContent("op " + op, x, 2, due[op]);
        }
        checks.due("0, to is a", 4, x.alter(0, 0, 0, 1));
        checks.dueContent("0, to is a", x, 0, due[0]);
    }

    private static void reach() {
        TupleShelf x = Shelves.with(0, 2, 0x120, 5, 0x230, -1, 0x340, 7);
        checks.due("a chain", 6, x.reach(1, 0));
        checks.due("width", 2, x.about(1, 0));
        checks.dueContent("a chain", x, 1, 0x120, 1, 0x130, 1, 0x140, 1, 0x230, 1, 0x240, 1, 0x340, 1);
        x.put(0, 0x340, -7);
        x.put(0, 0x310, 2);
        checks.due("a ring", 9, x.reach(1, 0));
        checks.due("a ring reaches itself", 1, x.count(1, 0x220));
        Shelves.fill(x, 2, 2, 0x000, 9);
        checks.due("to itself", 1, x.reach(2, 2));
        checks.dueContent("to itself, to is a", x, 2, 0x000, 1);
        Shelves.fill(x, 2, 2, 0xfe0, 1, 0xed0, 1, 0xdc0, 1, 0xcb0, 1);
        checks.due("downwards", 10, x.reach(3, 2));
        Shelves.fill(x, 2, 2, 0x190, 1, 0x930, 1, 0x380, 1, 0x820, 1);
        checks.due("to and fro", 10, x.reach(3, 2));
    }

    private static void turn() {
        TupleShelf x = Shelves.with(0, 3, 0x123, 2, 0x321, 3, 0x900, -5, 0x121, 7);
        checks.due("3", 4, x.turn(1, 0));
        checks.due("width 3", 3, x.about(1, 0));
        checks.dueContent("3", x, 1, 0x009, -5, 0x121, 7, 0x123, 3, 0x321, 2);
        Shelves.fill(x, 2, 2, 0x120, 4, 0xf00, 5);
        checks.due("2, to is a", 2, x.turn(2, 2));
        checks.due("width 2", 2, x.about(2, 0));
        checks.dueContent("2, to is a", x, 2, 0x0f0, 5, 0x210, 4);
        Shelves.fill(x, 3, 1, 0x500, 6);
        checks.due("1", 1, x.turn(2, 3));
        checks.due("width 1", 1, x.about(2, 0));
        checks.dueContent("1", x, 2, 0x500, 6);
    }

    private static void about() {
        TupleShelf x = Shelves.with(0, 3, 0x123, -2, 0x124, -3, 0xf00, -9, 0x023, -4);
        long[] due = {3, 4, 3, -18, -2};
        for (int what = 0; what < due.length; what++) {
            checks.due("what " + what, due[what], x.about(0, what));
        }
        x.put(0, 0xf00, 109);
        checks.due("greatest", 100, x.about(0, 4));
    }

    private static void same() {
        TupleShelf x = Shelves.with(0, 2, 0x120, 2, 0x340, 3);
        Shelves.fill(x, 1, 2, 0x340, 3, 0x120, 2);
        checks.due("put in another order", true, x.same(0, 1));
        checks.due("itself", true, x.same(0, 0));
        x.put(1, 0x120, 1);
        checks.due("another count", false, x.same(0, 1));
        x.put(1, 0x120, -1);
        x.put(1, 0x560, 1);
        checks.due("one more", false, x.same(0, 1));
        checks.due("one less", false, x.same(1, 0));
        x.put(1, 0x340, -3);
        checks.due("another tuple", false, x.same(0, 1));
    }

    private static void afterMore() {
        TupleShelf x = Shelves.with(0, 2, 0x110, 5, 0x120, 6, 0x220, 7);
        Shelves.fill(x, 0, 2, 0x110, 5);
        x.turn(1, 0);
        Shelves.fill(x, 2, 2, 0x110, 5, 0x120, 6, 0x220, 7);
        x.put(2, 0x220, -7);
        x.put(2, 0x120, -6);
        Shelves.fill(x, 5, 1, 0x100, 1, 0x200, 1);
        checks.due("join", 1, x.join(3, 0, 5, 1));
        checks.due("join of it behind", 1, x.join(3, 5, 0, 1));
        checks.due("narrow", 1, x.narrow(3, 0, 2));
        checks.due("pick", 1, x.pick(3, 0, 0, 1));
        for (int op = 0; op < 6; op++) {
            checks.due("alter " + op, op == 1 || op == 3 ? 0 : 1, x.alter(3, op, 0, 2));
        }
        x.width(4, 2);
        checks.due("alter with an empty one", 1, x.alter(3, 0, 0, 4));
        checks.due("alter of an empty one", 1, x.alter(3, 0, 4, 0));
        checks.due("reach", 1, x.reach(3, 0));
        checks.due("turn", 1, x.turn(3, 0));
        checks.due("first numbers", 1, x.about(0, 2));
        checks.due("sum", 5, x.about(0, 3));
        checks.due("greatest", 5, x.about(0, 4));
        checks.due("same", true, x.same(0, 1) && x.same(0, 2));
    }
}
