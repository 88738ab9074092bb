import java.util.ArrayList;
import java.util.Collections;
import java.util.List;
import java.util.Map;
import java.util.NoSuchElementException;
import java.util.TreeMap;
import java.util.TreeSet;

/** The document read a second time: lists of numbers in maps, with no thought of room or speed. */
final class ShelfModel {
    private static final class Table {
        final int width;
        final Map<List<Integer>, Integer> counts = new TreeMap<>((p, q) -> Integer.compare(code(p), code(q)));

        Table(int width) {
            this.width = width;
        }

        int of(List<Integer> tuple) {
            return counts.getOrDefault(tuple, 0);
        }

        void set(List<Integer> tuple, int count) {
            if (count == 0) {
                counts.remove(tuple);
            } else {
                counts.put(tuple, count);
            }
        }
    }

    private final Table[] tables = new Table[Shelves.RELATIONS];

    ShelfModel() {
        for (int r = 0; r < tables.length; r++) {
            tables[r] = new Table(1);
        }
    }

    private static int code(List<Integer> tuple) {
        int[] worth = {256, 16, 1};
        int code = 0;
        for (int i = 0; i < tuple.size(); i++) {
            code += worth[i] * tuple.get(i);
        }
        return code;
    }

    private static List<Integer> tuple(int code, int width) {
        List<Integer> all = new ArrayList<>(List.of(code / 256, code / 16 % 16, code % 16));
        argument(code >= 0 && code <= 4095);
        List<Integer> tuple = all.subList(0, width);
        argument(code(tuple) == code);
        return tuple;
    }

    private static void argument(boolean right) {
        if (!right) {
            throw new IllegalArgumentException();
        }
    }

    private static void relations(int... all) {
        for (int r : all) {
            if (r < 0 || r > 7) {
                throw new NoSuchElementException();
            }
        }
    }

    private int keep(int to, Table table) {
        if (table.counts.size() > 300) {
            throw new IllegalStateException();
        }
        tables[to] = table;
        return table.counts.size();
    }

    int width(int r, int w) {
        relations(r);
        argument(w == 1 || w == 2 || w == 3);
        int before = tables[r].counts.size();
        tables[r] = new Table(w);
        return before;
    }

    int put(int r, int t, int by) {
        relations(r);
        List<Integer> tuple = tuple(t, tables[r].width);
        int count = tables[r].of(tuple) + by;
        if (count != 0 && tables[r].of(tuple) == 0 && tables[r].counts.size() == 300) {
            throw new IllegalStateException();
        }
        tables[r].set(tuple, count);
        return count;
    }

    int count(int r, int t) {
        relations(r);
        return tables[r].of(tuple(t, tables[r].width));
    }

    int at(int r, int k) {
        relations(r);
        if (k < 0 || k >= tables[r].counts.size()) {
            throw new NoSuchElementException();
        }
        return code(new ArrayList<>(tables[r].counts.keySet()).get(k));
    }

    int join(int to, int a, int b, int on) {
        relations(to, a, b);
        Table left = tables[a];
        Table right = tables[b];
        argument(on >= 0 && on <= left.width && on <= right.width);
        argument(left.width + right.width - on <= 3);
        Table made = new Table(left.width + right.width - on);
        for (List<Integer> p : left.counts.keySet()) {
            for (List<Integer> q : right.counts.keySet()) {
                if (p.subList(left.width - on, left.width).equals(q.subList(0, on))) {
                    List<Integer> both = new ArrayList<>(p);
                    both.addAll(q.subList(on, right.width));
                    made.set(both, left.of(p) * right.of(q));
                }
            }
        }
        return keep(to, made);
    }

    int narrow(int to, int a, int mask) {
        relations(to, a);
        Table source = tables[a];
        argument(mask != 0);
        for (int bit = source.width; bit < 32; bit++) {
            argument((mask >>> bit & 1) == 0);
        }
        Table made = new Table(Integer.bitCount(mask));
        for (List<Integer> p : source.counts.keySet()) {
            List<Integer> some = new ArrayList<>();
            for (int place = 0; place < source.width; place++) {
                if ((mask >>> place & 1) == 1) {
                    some.add(p.get(place));
                }
            }
            made.set(some, made.of(some) + source.of(p));
        }
        return keep(to, made);
    }

    int pick(int to, int a, int place, int v) {
        relations(to, a);
        Table source = tables[a];
        argument(place >= 0 && place < source.width && v >= 0 && v <= 15);
        Table made = new Table(source.width);
        for (List<Integer> p : source.counts.keySet()) {
            if (p.get(place) == v) {
                made.set(p, source.of(p));
            }
        }
        return keep(to, made);
    }

    int alter(int to, int op, int a, int b) {
        relations(to, a, b);
        Table left = tables[a];
        Table right = tables[b];
        argument(op >= 0 && op <= 5 && left.width == right.width);
        Table made = new Table(left.width);
        for (int t = 0; t < 4096; t += 1 << 4 * (3 - left.width)) {
            List<Integer> tuple = tuple(t, left.width);
            boolean inLeft = left.counts.containsKey(tuple);
            boolean inRight = right.counts.containsKey(tuple);
            int p = left.of(tuple);
            int q = right.of(tuple);
            int[] counts = {p + q, p - q, inRight ? p : 0, inRight ? 0 : p, inLeft || inRight ? 1 : 0,
                inLeft && inRight ? (p < q ? p : q) : 0};
            made.set(tuple, counts[op]);
        }
        return keep(to, made);
    }

    int reach(int to, int a) {
        relations(to, a);
        argument(tables[a].width == 2);
        Table made = new Table(2);
        for (int x = 0; x < 16; x++) {
            List<Integer> open = new ArrayList<>(List.of(x));
            for (int i = 0; i < open.size(); i++) {
                for (int y = 0; y < 16; y++) {
                    if (tables[a].of(List.of(open.get(i), y)) != 0 && made.of(List.of(x, y)) == 0) {
                        made.set(List.of(x, y), 1);
                        open.add(y);
                    }
                }
            }
        }
        return keep(to, made);
    }

    int turn(int to, int a) {
        relations(to, a);
        Table made = new Table(tables[a].width);
        for (List<Integer> p : tables[a].counts.keySet()) {
            List<Integer> round = new ArrayList<>(p);
            Collections.reverse(round);
            made.set(round, tables[a].of(p));
        }
        return keep(to, made);
    }

    long about(int r, int what) {
        relations(r);
        argument(what >= 0 && what <= 4);
        Table table = tables[r];
        TreeSet<Integer> firsts = new TreeSet<>();
        long sum = 0;
        for (List<Integer> p : table.counts.keySet()) {
            firsts.add(p.get(0));
            sum += table.of(p);
        }
        int greatest = table.counts.isEmpty() ? 0 : Collections.max(table.counts.values());
        return new long[] {table.width, table.counts.size(), firsts.size(), sum, greatest}[what];
    }

    boolean same(int a, int b) {
        relations(a, b);
        return tables[a].width == tables[b].width && tables[a].counts.equals(tables[b].counts);
    }
}
