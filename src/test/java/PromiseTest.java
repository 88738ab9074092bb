import java.util.NoSuchElementException;

/** Each promise of the document: ordinary inputs, the edges it names, wrong inputs. */
public final class PromiseTest {
    private static final Class<NoSuchElementException> NO_SUCH = NoSuchElementException.class;
    private static final Class<IllegalArgumentException> ARGUMENT = IllegalArgumentException.class;
    private static final Class<IllegalStateException> STATE = IllegalStateException.class;
    private static final int[] NO_RELATIONS = {-1, 8, Integer.MIN_VALUE, Integer.MAX_VALUE};

    private static final Checks checks = new Checks();

    public static void main(String[] args) {
        newObject();
        width();
        widthWrong();
        put();
        putWrong();
        putFull();
        count();
        at();
        join();
        joinMore();
        joinWrong();
        joinFull();
        narrow();
        narrowWrong();
        pick();
        pickWrong();
        alter();
        alterWrong();
        alterFull();
        alterFullByTaking();
        reach();
        reachWrong();
        turn();
        about();
        same();
        afterMore();
        checks.finish();
    }

    private static void newObject() {
        checks.topic("1 new object");
        TupleShelf x = new TupleShelf();
        for (int r = 0; r < Shelves.RELATIONS; r++) {
            checks.due("width of " + r, 1, x.about(r, 0));
            checks.due("in " + r, 0, x.about(r, 1));
            checks.due("same as 0", true, x.same(r, 0));
        }
        x.put(0, 256, 1);
        checks.due("objects are apart", 0, new TupleShelf().about(0, 1));
    }

    private static void width() {
        checks.topic("2 width");
        TupleShelf x = Shelves.with(3, 2, 16, 5, 32, -5, 48, 1);
        checks.due("how many were in", 3, x.width(3, 3));
        checks.due("the width then", 3, x.about(3, 0));
        checks.due("nothing in", 0, x.about(3, 1));
        checks.due("no count is left", 0, x.count(3, 16));
        x.put(3, 17, 1);
        checks.due("the width it has", 1, x.width(3, 3));
        checks.due("the width it has empties", 0, x.about(3, 1));
        checks.due("1", 0, x.width(3, 1));
        checks.due("1 then", 1, x.about(3, 0));
        checks.due("others stay", 1, x.about(2, 0));
    }

    private static void widthWrong() {
        checks.topic("2 width, wrong");
        TupleShelf x = Shelves.with(0, 2, 16, 5);
        for (int w : new int[] {0, 4, -1, Integer.MIN_VALUE, Integer.MAX_VALUE}) {
            checks.dueThrow("width " + w, ARGUMENT, () -> x.width(0, w));
        }
        for (int r : NO_RELATIONS) {
            checks.dueThrow("relation " + r, NO_SUCH, () -> x.width(r, 1));
            checks.dueThrow("relation first " + r, NO_SUCH, () -> x.width(r, 0));
        }
        checks.due("width stays", 2, x.about(0, 0));
        checks.dueContent("content stays", x, 0, 16, 5);
    }

    private static void put() {
        checks.topic("3 put");
        TupleShelf x = new TupleShelf();
        x.width(0, 3);
        checks.due("first", 7, x.put(0, 0x123, 7));
        checks.due("more", 9, x.put(0, 0x123, 2));
        checks.due("less", -1, x.put(0, 0x123, -10));
        checks.due("in with a count below 0", 1, x.about(0, 1));
        checks.due("by 0 of one in", -1, x.put(0, 0x123, 0));
        checks.due("by 0 of one not in", 0, x.put(0, 0x124, 0));
        checks.due("by 0 puts nothing in", 1, x.about(0, 1));
        checks.due("taken out", 0, x.put(0, 0x123, 1));
        checks.due("out", 0, x.about(0, 1));
        checks.due("greatest", Integer.MAX_VALUE, x.put(0, 5, Integer.MAX_VALUE));
        checks.due("wraps", Integer.MIN_VALUE, x.put(0, 5, 1));
        checks.due("wraps to 0", 0, x.put(0, 5, Integer.MIN_VALUE));
        checks.due("out by wrapping", 0, x.about(0, 1));
        x.put(0, 4095, 1);
        x.put(0, 0, 2);
        x.put(0, 256, 3);
        x.put(0, 255, 4);
        checks.dueContent("in order", x, 0, 0, 2, 255, 4, 256, 3, 4095, 1);
        x.put(0, 255, -4);
        checks.dueContent("one out of the middle", x, 0, 0, 2, 256, 3, 4095, 1);
        checks.due("others stay", 0, x.about(1, 1));
    }

    private static void putWrong() {
        checks.topic("3 put, wrong");
        TupleShelf x = new TupleShelf();
        x.width(1, 2);
        x.width(2, 3);
        int[][] wrong = {{1, 15, 16, 255, 257, 272, 4095, 4096, -1, -256, Integer.MIN_VALUE, Integer.MAX_VALUE},
            {1, 15, 17, 31, 4095, 4096, -16, Integer.MIN_VALUE, Integer.MAX_VALUE},
            {4096, -1, Integer.MIN_VALUE, Integer.MAX_VALUE}};
        for (int r = 0; r < wrong.length; r++) {
            int relation = r;
            for (int t : wrong[r]) {
                checks.dueThrow("put " + r + " " + t, ARGUMENT, () -> x.put(relation, t, 1));
                checks.dueThrow("put 0 " + r + " " + t, ARGUMENT, () -> x.put(relation, t, 0));
                checks.dueThrow("count " + r + " " + t, ARGUMENT, () -> x.count(relation, t));
            }
            checks.due("nothing in " + r, 0, x.about(r, 1));
        }
        for (int r : NO_RELATIONS) {
            checks.dueThrow("relation first " + r, NO_SUCH, () -> x.put(r, 1, 1));
        }
        checks.due("greatest of width 1", 1, x.put(0, 3840, 1));
        checks.due("greatest of width 2", 1, x.put(1, 4080, 1));
        checks.due("greatest of width 3", 1, x.put(2, 4095, 1));
    }

    private static void putFull() {
        checks.topic("3 put, full");
        TupleShelf x = new TupleShelf();
        Shelves.fillRow(x, 0, 100, Shelves.MOST_IN);
        checks.due("300 are in", 300, x.about(0, 1));
        checks.dueThrow("one more before", STATE, () -> x.put(0, 0, 1));
        checks.dueThrow("one more behind", STATE, () -> x.put(0, 4095, -1));
        checks.dueThrow("no tuple comes first", ARGUMENT, () -> x.put(0, 4096, 1));
        checks.due("nothing changed", 300, x.about(0, 1));
        checks.due("nothing changed in counts", 300, x.about(0, 3));
        checks.due("first", 100, x.at(0, 0));
        checks.due("last", 399, x.at(0, 299));
        checks.due("by 0 of one not in", 0, x.put(0, 0, 0));
        checks.due("more of one in", 3, x.put(0, 100, 2));
        checks.due("one out", 0, x.put(0, 399, -1));
        checks.due("one in for it", 4, x.put(0, 0, 4));
        checks.due("300 again", 300, x.about(0, 1));
        checks.due("another relation has room", 1, x.put(1, 0, 1));
    }

    private static void count() {
        checks.topic("4 count");
        TupleShelf x = Shelves.with(0, 2, 16, 5, 256, -3);
        checks.due("in", 5, x.count(0, 16));
        checks.due("below 0", -3, x.count(0, 256));
        checks.due("not in, between", 0, x.count(0, 32));
        checks.due("not in, before", 0, x.count(0, 0));
        checks.due("not in, behind", 0, x.count(0, 4080));
        checks.due("another relation", 0, x.count(1, 256));
        checks.dueThrow("third number", ARGUMENT, () -> x.count(0, 17));
        for (int r : NO_RELATIONS) {
            checks.dueThrow("relation first " + r, NO_SUCH, () -> x.count(r, -1));
        }
    }

    private static void at() {
        checks.topic("5 at");
        TupleShelf x = Shelves.with(0, 3, 4095, 1, 7, -1, 256, 3);
        checks.dueTuples("order", x, 0, 7, 256, 4095);
        for (int k : new int[] {-1, 3, 299, 300, 4096, Integer.MIN_VALUE, Integer.MAX_VALUE}) {
            checks.dueThrow("place " + k, NO_SUCH, () -> x.at(0, k));
        }
        checks.dueThrow("empty", NO_SUCH, () -> x.at(1, 0));
        for (int r : NO_RELATIONS) {
            checks.dueThrow("relation " + r, NO_SUCH, () -> x.at(r, 0));
        }
        x.put(0, 7, 1);
        checks.due("the next moves up", 256, x.at(0, 0));
    }

    private static void join() {
        checks.topic("6 join");
        TupleShelf x = Shelves.with(0, 2, 0x120, 2, 0x130, 3, 0x450, 5);
        Shelves.fill(x, 1, 2, 0x270, 7, 0x280, -1, 0x390, 11, 0x510, 13, 0x120, 17);
        checks.due("on 1", 4, x.join(2, 0, 1, 1));
        checks.due("width 3", 3, x.about(2, 0));
        checks.dueContent("on 1", x, 2, 0x127, 14, 0x128, -2, 0x139, 33, 0x451, 65);
        checks.due("on 2", 1, x.join(3, 0, 1, 2));
        checks.due("width 2", 2, x.about(3, 0));
        checks.dueContent("on 2", x, 3, 0x120, 34);
        checks.dueContent("a stays", x, 0, 0x120, 2, 0x130, 3, 0x450, 5);
        checks.due("to is a and b", 0, x.join(0, 0, 0, 1));
        checks.due("to has the new width", 3, x.about(0, 0));
    }

    private static void joinMore() {
        checks.topic("6 join, more widths");
        TupleShelf x = Shelves.with(0, 1, 0x100, 2, 0x200, 3);
        Shelves.fill(x, 1, 2, 0x140, 5, 0x240, 7, 0x340, 9);
        Shelves.fill(x, 2, 3, 0x141, 11, 0x412, 13, 0x141, 0);
        checks.due("1 and 1 on 0", 4, x.join(5, 0, 0, 0));
        checks.dueContent("1 and 1 on 0", x, 5, 0x110, 4, 0x120, 6, 0x210, 6, 0x220, 9);
        checks.due("1 and 2 on 0", 6, x.join(5, 0, 1, 0));
        checks.due("width 3", 3, x.about(5, 0));
        checks.dueTuples("1 and 2 on 0", x, 5, 0x114, 0x124, 0x134, 0x214, 0x224, 0x234);
        checks.due("2 and 1 on 0", 6, x.join(5, 1, 0, 0));
        checks.dueTuples("2 and 1 on 0", x, 5, 0x141, 0x142, 0x241, 0x242, 0x341, 0x342);
        checks.due("1 and 1 on 1", 2, x.join(5, 0, 0, 1));
        checks.dueContent("1 and 1 on 1", x, 5, 0x100, 4, 0x200, 9);
        checks.due("1 and 2 on 1", 2, x.join(5, 0, 1, 1));
        checks.dueContent("1 and 2 on 1", x, 5, 0x140, 10, 0x240, 21);
        checks.due("1 and 3 on 1", 1, x.join(5, 0, 2, 1));
        checks.dueContent("1 and 3 on 1", x, 5, 0x141, 22);
        checks.due("2 and 3 on 2", 1, x.join(5, 1, 2, 2));
        checks.dueContent("2 and 3 on 2", x, 5, 0x141, 55);
        checks.due("3 and 1 on 1", 2, x.join(5, 2, 0, 1));
        checks.dueContent("3 and 1 on 1", x, 5, 0x141, 22, 0x412, 39);
        checks.due("3 and 3 on 3", 2, x.join(5, 2, 2, 3));
        checks.dueContent("3 and 3 on 3", x, 5, 0x141, 121, 0x412, 169);
        Shelves.fill(x, 6, 2, 0x410, 2, 0x120, 3);
        checks.due("3 and 2 on 2", 2, x.join(5, 2, 6, 2));
        checks.dueContent("3 and 2 on 2", x, 5, 0x141, 22, 0x412, 39);
        checks.due("to is b", 2, x.join(6, 2, 6, 2));
        checks.dueContent("to is b", x, 6, 0x141, 22, 0x412, 39);
        Shelves.fill(x, 7, 1, 0x100, 1 << 16, 0x200, 3);
        checks.due("a product that wraps to 0", 1, x.join(7, 7, 7, 1));
        checks.dueContent("a product that wraps to 0", x, 7, 0x200, 9);
        checks.due("with an empty one", 0, x.join(7, 3, 0, 0));
        checks.due("the width of empty ones too", 2, x.about(7, 0));
        Shelves.fill(x, 7, 2, 0xff0, 1);
        checks.due("the greatest numbers", 1, x.join(7, 7, 7, 1));
        checks.dueContent("the greatest numbers", x, 7, 0xfff, 1);
    }

    private static void joinWrong() {
        checks.topic("6 join, wrong");
        TupleShelf x = Shelves.with(1, 1, 0x100, 1);
        Shelves.fill(x, 2, 2, 0x110, 1);
        Shelves.fill(x, 3, 3, 0x111, 1);
        Shelves.fill(x, 4, 2, 0x550, 5);
        int[][] wrong = {{1, 1, -1}, {1, 1, 2}, {1, 2, 2}, {2, 1, 2}, {1, 3, 2}, {1, 3, 3}, {3, 1, 2}, {3, 1, 3},
            {2, 3, 3}, {3, 2, 3}, {3, 3, 4}, {2, 2, 3}, {2, 2, 0}, {1, 3, 0}, {3, 1, 0}, {2, 3, 1}, {3, 2, 1},
            {3, 3, 2}, {3, 3, 1}, {3, 3, 0}, {1, 1, Integer.MIN_VALUE}, {3, 3, Integer.MAX_VALUE}};
        for (int[] w : wrong) {
            checks.dueThrow(w[0] + " " + w[1] + " on " + w[2], ARGUMENT, () -> x.join(4, w[0], w[1], w[2]));
        }
        for (int r : NO_RELATIONS) {
            checks.dueThrow("to " + r, NO_SUCH, () -> x.join(r, 1, 1, -1));
            checks.dueThrow("a " + r, NO_SUCH, () -> x.join(4, r, 1, -1));
            checks.dueThrow("b " + r, NO_SUCH, () -> x.join(4, 1, r, -1));
        }
        checks.dueContent("nothing changed", x, 4, 0x550, 5);
        checks.due("width stays", 2, x.about(4, 0));
    }

    private static void joinFull() {
        checks.topic("6 join, full");
        TupleShelf x = new TupleShelf();
        for (int n = 0; n < 16; n++) {
            x.put(0, n << 8, 1);
        }
        x.width(1, 2);
        for (int n = 0; n < 19; n++) {
            x.put(1, n << 4, 1);
        }
        x.put(2, 0x700, 7);
        checks.dueThrow("304", STATE, () -> x.join(2, 0, 1, 0));
        checks.dueContent("nothing changed", x, 2, 0x700, 7);
        checks.due("width stays", 1, x.about(2, 0));
        checks.dueThrow("to is a", STATE, () -> x.join(0, 0, 1, 0));
        checks.due("a stays", 16, x.about(0, 1));
        checks.dueThrow("wrong on comes first", ARGUMENT, () -> x.join(2, 0, 1, 2));
        x.put(0, 0xf00, -1);
        x.put(1, 19 << 4, 1);
        checks.due("300", 300, x.join(2, 0, 1, 0));
        for (int n = 0; n < 16; n++) {
            x.put(0, n << 8, (1 << 16) - (n == 15 ? 0 : 1));
        }
        for (int n = 0; n < 20; n++) {
            x.put(1, n << 4, (1 << 16) - 1);
        }
        checks.due("320 products of 0", 0, x.join(2, 0, 1, 0));
        x.put(1, 20 << 4, 1);
        checks.due("those of 0 take no room", 16, x.join(2, 0, 1, 0));
    }

    private static void narrow() {
        checks.topic("7 narrow");
        TupleShelf x = Shelves.with(0, 3, 0x123, 2, 0x124, 3, 0x153, 5, 0x623, -2, 0xfed, 7);
        int[][] due = {{},
            {0x100, 10, 0x600, -2, 0xf00, 7},
            {0x200, 3, 0x500, 5, 0xe00, 7},
            {0x120, 5, 0x150, 5, 0x620, -2, 0xfe0, 7},
            {0x300, 5, 0x400, 3, 0xd00, 7},
            {0x130, 7, 0x140, 3, 0x630, -2, 0xfd0, 7},
            {0x240, 3, 0x530, 5, 0xed0, 7},
            {0x123, 2, 0x124, 3, 0x153, 5, 0x623, -2, 0xfed, 7}};
        for (int mask = 1; mask < 8; mask++) {
            checks.due("mask " + mask, due[mask].length / 2, x.narrow(1, 0, mask));
            checks.due("width " + mask, Integer.bitCount(mask), x.about(1, 0));
            checks.dueContent("mask " + mask, x, 1, due[mask]);
        }
        Shelves.fill(x, 2, 2, 0x120, 4, 0x220, 5);
        checks.due("second of 2", 1, x.narrow(2, 2, 2));
        checks.dueContent("second of 2, to is a", x, 2, 0x200, 9);
        checks.due("one of 1", 1, x.narrow(3, 2, 1));
        checks.dueContent("one of 1", x, 3, 0x200, 9);
        Shelves.fill(x, 2, 2, 0x120, Integer.MAX_VALUE, 0x130, 1, 0x140, 1);
        checks.due("wraps", 1, x.narrow(2, 2, 1));
        checks.dueContent("wraps", x, 2, 0x100, Integer.MIN_VALUE + 1);
        Shelves.fill(x, 2, 2, 0x120, Integer.MIN_VALUE, 0x130, Integer.MIN_VALUE, 0x140, 6);
        checks.due("0 between", 1, x.narrow(2, 2, 1));
        checks.dueContent("0 between", x, 2, 0x100, 6);
        Shelves.fillRow(x, 4, 3000, Shelves.MOST_IN);
        checks.due("300", 300, x.narrow(5, 4, 7));
        checks.due("the same", true, x.same(4, 5));
    }

    private static void narrowWrong() {
        checks.topic("7 narrow, wrong");
        TupleShelf x = Shelves.with(1, 1, 0x100, 1);
        Shelves.fill(x, 2, 2, 0x110, 1);
        Shelves.fill(x, 3, 3, 0x111, 1);
        Shelves.fill(x, 4, 2, 0x550, 5);
        int[][] wrong = {{1, 0}, {2, 0}, {3, 0}, {1, 2}, {1, 3}, {2, 4}, {2, 5}, {2, 7}, {3, 8}, {3, 9}, {3, 15},
            {1, -1}, {2, -1}, {3, -1}, {3, Integer.MIN_VALUE}, {3, Integer.MIN_VALUE + 1}, {3, Integer.MAX_VALUE}};
        for (int[] w : wrong) {
            checks.dueThrow(w[0] + " mask " + w[1], ARGUMENT, () -> x.narrow(4, w[0], w[1]));
        }
        for (int r : NO_RELATIONS) {
            checks.dueThrow("to " + r, NO_SUCH, () -> x.narrow(r, 1, 0));
            checks.dueThrow("a " + r, NO_SUCH, () -> x.narrow(4, r, 0));
        }
        checks.dueContent("nothing changed", x, 4, 0x550, 5);
    }

    private static void pick() {
        checks.topic("8 pick");
        TupleShelf x = Shelves.with(0, 3, 0x123, 2, 0x124, -3, 0x323, 5, 0xf0f, 7);
        checks.due("first", 2, x.pick(1, 0, 0, 1));
        checks.due("width", 3, x.about(1, 0));
        checks.dueContent("first", x, 1, 0x123, 2, 0x124, -3);
        checks.due("second", 3, x.pick(1, 0, 1, 2));
        checks.dueContent("second", x, 1, 0x123, 2, 0x124, -3, 0x323, 5);
        checks.due("third", 2, x.pick(1, 0, 2, 3));
        checks.dueContent("third", x, 1, 0x123, 2, 0x323, 5);
        checks.due("15", 1, x.pick(1, 0, 2, 15));
        checks.due("0", 1, x.pick(1, 0, 1, 0));
        checks.dueContent("0", x, 1, 0xf0f, 7);
        checks.due("none", 0, x.pick(1, 0, 0, 9));
        checks.due("none, width", 3, x.about(1, 0));
        checks.due("to is a", 1, x.pick(0, 0, 0, 3));
        checks.dueContent("to is a", x, 0, 0x323, 5);
    }

    private static void pickWrong() {
        checks.topic("8 pick, wrong");
        TupleShelf x = Shelves.with(1, 1, 0x100, 1);
        Shelves.fill(x, 2, 2, 0x110, 1);
        Shelves.fill(x, 3, 3, 0x111, 1);
        Shelves.fill(x, 4, 2, 0x550, 5);
        for (int a = 1; a <= 3; a++) {
            int source = a;
            for (int place : new int[] {-1, a, a + 1, Integer.MIN_VALUE, Integer.MAX_VALUE}) {
                checks.dueThrow(a + " place " + place, ARGUMENT, () -> x.pick(4, source, place, 0));
            }
            for (int v : new int[] {-1, 16, 17, Integer.MIN_VALUE, Integer.MAX_VALUE}) {
                checks.dueThrow(a + " number " + v, ARGUMENT, () -> x.pick(4, source, 0, v));
            }
        }
        for (int r : NO_RELATIONS) {
            checks.dueThrow("to " + r, NO_SUCH, () -> x.pick(r, 1, -1, 0));
            checks.dueThrow("a " + r, NO_SUCH, () -> x.pick(4, r, 0, 16));
        }
        checks.dueContent("nothing changed", x, 4, 0x550, 5);
    }

    private static void alter() {
        checks.topic("9 alter");
        TupleShelf x = Shelves.with(0, 2, 0x010, 1, 0x020, 5, 0x030, -4, 0x040, 2);
        Shelves.fill(x, 1, 2, 0x020, 3, 0x030, 4, 0x040, 2, 0xff0, Integer.MIN_VALUE);
        int[][] due = {
            {0x010, 1, 0x020, 8, 0x040, 4, 0xff0, Integer.MIN_VALUE},
            {0x010, 1, 0x020, 2, 0x030, -8, 0xff0, Integer.MIN_VALUE},
            {0x020, 5, 0x030, -4, 0x040, 2},
            {0x010, 1},
            {0x010, 1, 0x020, 1, 0x030, 1, 0x040, 1, 0xff0, 1},
            {0x020, 3, 0x030, -4, 0x040, 2}};
        for (int op = 0; op < 6; op++) {
            checks.due("op " + op, due[op].length / 2, x.alter(2, op, 0, 1));
            checks.due("width " + op, 2, x.about(2, 0));
            checks.dueContent("op " + op, x, 2, due[op]);
        }
        Shelves.fill(x, 3, 2, 0x020, Integer.MIN_VALUE, 0x030, 9, 0x040, 0x7fffffff);
        Shelves.fill(x, 4, 2, 0x020, Integer.MIN_VALUE, 0x030, -9, 0x040, 1);
        checks.due("0 wraps", 1, x.alter(5, 0, 3, 4));
        checks.dueContent("0 wraps", x, 5, 0x040, Integer.MIN_VALUE);
        checks.due("5 with signs", 3, x.alter(5, 5, 3, 4));
        checks.dueContent("5 with signs", x, 5, 0x020, Integer.MIN_VALUE, 0x030, -9, 0x040, 1);
        checks.due("1 with itself", 0, x.alter(5, 1, 3, 3));
        checks.due("0, to is a", 4, x.alter(0, 0, 0, 1));
        checks.dueContent("0, to is a", x, 0, due[0]);
        checks.due("1, to is b", 4, x.alter(3, 1, 1, 3));
        checks.dueContent("1, to is b", x, 3, 0x020, 3 - Integer.MIN_VALUE, 0x030, -5, 0x040, 2 - 0x7fffffff,
            0xff0, Integer.MIN_VALUE);
    }

    private static void alterWrong() {
        checks.topic("9 alter, wrong");
        TupleShelf x = Shelves.with(1, 1, 0x100, 1);
        Shelves.fill(x, 2, 2, 0x100, 1);
        Shelves.fill(x, 3, 3, 0x100, 1);
        Shelves.fill(x, 4, 2, 0x550, 5);
        for (int op : new int[] {-1, 6, 7, Integer.MIN_VALUE, Integer.MAX_VALUE}) {
            checks.dueThrow("op " + op, ARGUMENT, () -> x.alter(4, op, 2, 2));
        }
        for (int o = 0; o < 6; o++) {
            int op = o;
            checks.dueThrow("widths 1 2", ARGUMENT, () -> x.alter(4, op, 1, 2));
            checks.dueThrow("widths 2 1", ARGUMENT, () -> x.alter(4, op, 2, 1));
            checks.dueThrow("widths 3 2", ARGUMENT, () -> x.alter(4, op, 3, 2));
            checks.due("the width of to is free", 1, x.alter(5, op == 1 || op == 3 ? 0 : op, 3, 3));
        }
        for (int r : NO_RELATIONS) {
            checks.dueThrow("to " + r, NO_SUCH, () -> x.alter(r, 6, 1, 1));
            checks.dueThrow("a " + r, NO_SUCH, () -> x.alter(4, 6, r, 1));
            checks.dueThrow("b " + r, NO_SUCH, () -> x.alter(4, 6, 1, r));
        }
        checks.dueContent("nothing changed", x, 4, 0x550, 5);
    }

    private static void alterFull() {
        checks.topic("9 alter, full");
        TupleShelf x = new TupleShelf();
        Shelves.fillRow(x, 0, 0, 200);
        Shelves.fillRow(x, 1, 100, 200);
        checks.due("300 of 0", 300, x.alter(2, 0, 0, 1));
        checks.due("300 of 4", 300, x.alter(2, 4, 0, 1));
        checks.due("200 of 1", 200, x.alter(2, 1, 0, 1));
        x.put(1, 4000, 1);
        x.put(3, 0x700, 7);
        for (int op : new int[] {0, 4}) {
            checks.dueThrow("301 of " + op, STATE, () -> x.alter(3, op, 0, 1));
            checks.dueThrow("301 of " + op + ", to is b", STATE, () -> x.alter(1, op, 0, 1));
        }
        checks.dueContent("nothing changed", x, 3, 0x700, 7);
        checks.due("width stays", 1, x.about(3, 0));
        checks.due("b stays", 201, x.about(1, 1));
        checks.due("201 of 1", 201, x.alter(2, 1, 0, 1));
        checks.due("100 of 2", 100, x.alter(2, 2, 0, 1));
        checks.due("100 of 3", 100, x.alter(2, 3, 0, 1));
        checks.due("100 of 5", 100, x.alter(2, 5, 0, 1));
    }

    private static void alterFullByTaking() {
        checks.topic("9 alter, full by taking");
        TupleShelf x = new TupleShelf();
        Shelves.fillRow(x, 0, 0, 200);
        Shelves.fillRow(x, 1, 3700, 100);
        checks.due("300", 300, x.alter(2, 1, 0, 1));
        checks.due("counts of 300", 100, x.about(2, 3));
        x.put(0, 1000, 1);
        checks.dueThrow("301", STATE, () -> x.alter(2, 1, 0, 1));
        checks.due("2 stays", 300, x.about(2, 1));
        checks.due("2 stays as it was", 0, x.count(2, 1000));
        x.put(0, 3700, 1);
        checks.due("one that becomes 0 takes no room", 300, x.alter(2, 1, 0, 1));
    }

    private static void reach() {
        checks.topic("10 reach");
        TupleShelf x = Shelves.with(0, 2, 0x120, 5, 0x230, -1, 0x340, 7);
        checks.due("a chain", 6, x.reach(1, 0));
        checks.due("width", 2, x.about(1, 0));
        checks.dueContent("a chain", x, 1, 0x120, 1, 0x130, 1, 0x140, 1, 0x230, 1, 0x240, 1, 0x340, 1);
        x.put(0, 0x340, -7);
        x.put(0, 0x310, 2);
        checks.due("a ring", 9, x.reach(1, 0));
        checks.due("a ring reaches itself", 1, x.count(1, 0x220));
        Shelves.fill(x, 2, 2, 0x000, 9);
        checks.due("to itself", 1, x.reach(2, 2));
        checks.dueContent("to itself, to is a", x, 2, 0x000, 1);
        Shelves.fill(x, 2, 2, 0xfe0, 1, 0xed0, 1, 0xdc0, 1, 0xcb0, 1);
        checks.due("downwards", 10, x.reach(3, 2));
        Shelves.fill(x, 2, 2, 0x190, 1, 0x930, 1, 0x380, 1, 0x820, 1);
        checks.due("to and fro", 10, x.reach(3, 2));
        Shelves.fill(x, 2, 2);
        checks.due("no step", 0, x.reach(1, 2));
        for (int n = 0; n < 16; n++) {
            x.put(2, n << 8 | (n + 1 & 15) << 4, 1);
        }
        checks.due("all", 256, x.reach(1, 2));
        checks.due("counts 1", 256, x.about(1, 3));
        checks.due("greatest 1", 1, x.about(1, 4));
    }

    private static void reachWrong() {
        checks.topic("10 reach, wrong");
        TupleShelf x = Shelves.with(3, 3, 0x111, 1);
        checks.dueThrow("width 1", ARGUMENT, () -> x.reach(3, 0));
        checks.dueThrow("width 3", ARGUMENT, () -> x.reach(0, 3));
        for (int r : NO_RELATIONS) {
            checks.dueThrow("to " + r, NO_SUCH, () -> x.reach(r, 0));
            checks.dueThrow("a " + r, NO_SUCH, () -> x.reach(0, r));
        }
        checks.dueContent("nothing changed", x, 3, 0x111, 1);
    }

    private static void turn() {
        checks.topic("11 turn");
        TupleShelf x = Shelves.with(0, 3, 0x123, 2, 0x321, 3, 0x900, -5, 0x121, 7);
        checks.due("3", 4, x.turn(1, 0));
        checks.due("width 3", 3, x.about(1, 0));
        checks.dueContent("3", x, 1, 0x009, -5, 0x121, 7, 0x123, 3, 0x321, 2);
        Shelves.fill(x, 2, 2, 0x120, 4, 0xf00, 5);
        checks.due("2, to is a", 2, x.turn(2, 2));
        checks.due("width 2", 2, x.about(2, 0));
        checks.dueContent("2, to is a", x, 2, 0x0f0, 5, 0x210, 4);
        Shelves.fill(x, 3, 1, 0x500, 6);
        checks.due("1", 1, x.turn(2, 3));
        checks.due("width 1", 1, x.about(2, 0));
        checks.dueContent("1", x, 2, 0x500, 6);
        Shelves.fillRow(x, 4, 500, Shelves.MOST_IN);
        checks.due("300", 300, x.turn(5, 4));
        checks.due("not the same", false, x.same(4, 5));
        checks.due("300 back", 300, x.turn(5, 5));
        checks.due("the same", true, x.same(4, 5));
        for (int r : NO_RELATIONS) {
            checks.dueThrow("to " + r, NO_SUCH, () -> x.turn(r, 0));
            checks.dueThrow("a " + r, NO_SUCH, () -> x.turn(0, r));
        }
    }

    private static void about() {
        checks.topic("12 about");
        TupleShelf x = Shelves.with(0, 3, 0x123, -2, 0x124, -3, 0xf00, -9, 0x023, -4);
        long[] due = {3, 4, 3, -18, -2};
        for (int what = 0; what < due.length; what++) {
            checks.due("what " + what, due[what], x.about(0, what));
        }
        x.put(0, 0xf00, 109);
        checks.due("greatest", 100, x.about(0, 4));
        Shelves.fill(x, 0, 3, 0x123, -6);
        checks.due("greatest of one", -6, x.about(0, 4));
        x.put(0, 0x123, 6);
        checks.due("greatest after the last is out", 0, x.about(0, 4));
        long[] empty = {1, 0, 0, 0, 0};
        for (int what = 0; what < empty.length; what++) {
            checks.due("empty " + what, empty[what], x.about(1, what));
        }
        Shelves.fill(x, 2, 1, 0x000, Integer.MAX_VALUE, 0x100, Integer.MAX_VALUE);
        checks.due("a sum beyond int", 2L * Integer.MAX_VALUE, x.about(2, 3));
        Shelves.fill(x, 2, 1, 0x000, Integer.MIN_VALUE, 0x100, Integer.MIN_VALUE);
        checks.due("a sum below int", 2L * Integer.MIN_VALUE, x.about(2, 3));
        checks.due("least greatest", Integer.MIN_VALUE, x.about(2, 4));
        for (int what : new int[] {-1, 5, Integer.MIN_VALUE, Integer.MAX_VALUE}) {
            checks.dueThrow("what " + what, ARGUMENT, () -> x.about(0, what));
        }
        for (int r : NO_RELATIONS) {
            checks.dueThrow("relation first " + r, NO_SUCH, () -> x.about(r, 5));
        }
    }

    private static void same() {
        checks.topic("13 same");
        TupleShelf x = Shelves.with(0, 2, 0x120, 2, 0x340, 3);
        Shelves.fill(x, 1, 2, 0x340, 3, 0x120, 2);
        checks.due("put in another order", true, x.same(0, 1));
        checks.due("itself", true, x.same(0, 0));
        x.put(1, 0x120, 1);
        checks.due("another count", false, x.same(0, 1));
        x.put(1, 0x120, -1);
        x.put(1, 0x560, 1);
        checks.due("one more", false, x.same(0, 1));
        checks.due("one less", false, x.same(1, 0));
        x.put(1, 0x340, -3);
        checks.due("another tuple", false, x.same(0, 1));
        Shelves.fill(x, 2, 1, 0x100, 1);
        Shelves.fill(x, 3, 2, 0x100, 1);
        checks.due("another width", false, x.same(2, 3));
        x.width(4, 2);
        checks.due("another width, empty", false, x.same(4, 5));
        checks.due("empty", true, x.same(5, 6));
        for (int r : NO_RELATIONS) {
            checks.dueThrow("a " + r, NO_SUCH, () -> x.same(r, 0));
            checks.dueThrow("b " + r, NO_SUCH, () -> x.same(0, r));
        }
    }

    private static void afterMore() {
        checks.topic("6 to 13, of a relation that had more in before");
        TupleShelf x = Shelves.with(0, 2, 0x110, 5, 0x120, 6, 0x220, 7);
        Shelves.fill(x, 0, 2, 0x110, 5);
        x.turn(1, 0);
        Shelves.fill(x, 2, 2, 0x110, 5, 0x120, 6, 0x220, 7);
        x.put(2, 0x220, -7);
        x.put(2, 0x120, -6);
        Shelves.fill(x, 5, 1, 0x100, 1, 0x200, 1);
        checks.due("join", 1, x.join(3, 0, 5, 1));
        checks.due("join of it behind", 1, x.join(3, 5, 0, 1));
        checks.due("narrow", 1, x.narrow(3, 0, 2));
        checks.due("pick", 1, x.pick(3, 0, 0, 1));
        for (int op = 0; op < 6; op++) {
            checks.due("alter " + op, op == 1 || op == 3 ? 0 : 1, x.alter(3, op, 0, 2));
        }
        x.width(4, 2);
        checks.due("alter with an empty one", 1, x.alter(3, 0, 0, 4));
        checks.due("alter of an empty one", 1, x.alter(3, 0, 4, 0));
        checks.due("reach", 1, x.reach(3, 0));
        checks.due("turn", 1, x.turn(3, 0));
        checks.due("first numbers", 1, x.about(0, 2));
        checks.due("sum", 5, x.about(0, 3));
        checks.due("greatest", 5, x.about(0, 4));
        checks.due("same", true, x.same(0, 1) && x.same(0, 2));
    }
}
