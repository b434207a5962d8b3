import java.util.NoSuchElementException;

/** Promises 1, 2 and 29 to 33, and which of several codes comes first when there are 300 things. */
public final class AllTest {
    private static final Due due = new Due();

    public static void main(String[] args) {
        newObject();
        clear();
        clearOfAFullObject();
        size();
        sameMaps();
        sameRows();
        sameHeaps();
        sameOfTwoSorts();
        sound();
        worked();
        told();
        fullObject();
        objectsAreApart();
        due.end();
    }

    private static void newObject() {
        OrderedMaps x = new OrderedMaps();
        for (int what = 0; what < 4; what++) {
            due.is("told " + what, x.told(what), 0);
        }
        due.is("worked", x.worked(), 0);
        due.is("size", x.size(0), -1);
        due.is("sound", x.sound(0), false);
        due.is("has", x.has(0, 0), false);
        due.is("NONE", OrderedMaps.NONE, -1);
    }

    private static void clear() {
        OrderedMaps x = new OrderedMaps();
        x.clear();
        due.is("told", x.told(0), 0);
        int m = x.put(x.map(false, true), 1, 6, 2);
        x.add(x.row(), true, 1);
        x.push(x.heap(), 1);
        x.clear();
        for (int what = 0; what < 4; what++) {
            due.is("told " + what, x.told(what), 0);
        }
        due.is("worked stays", x.worked(), 1);
        for (int thing = 0; thing < 7; thing++) {
            due.is("size", x.size(thing), -1);
            due.is("sound", x.sound(thing), false);
        }
        due.fails("get", IllegalArgumentException.class, () -> x.get(m, 1));
        due.is("put", x.put(m, 1, 1, 1), -1);
        due.is("numbers go from 0 again", x.heap(), 0);
        due.is("and on", x.row(), 1);
        due.is("an old number is unknown", x.size(2), -1);
        int lazy = x.put(x.map(false, false), 1, 6, 2);
        due.is("its value", x.get(lazy, 1), 3);
        due.is("worked goes on", x.worked(), 2);
    }

    private static void clearOfAFullObject() {
        OrderedMaps x = new OrderedMaps();
        for (int i = 0; i < 300; i++) {
            due.is("row", x.row(), i);
        }
        due.is("row 301", x.row(), -4);
        x.clear();
        due.is("told", x.told(0), 0);
        due.is("row", x.row(), 0);
        due.is("size", x.size(299), -1);
    }

    private static void size() {
        OrderedMaps x = new OrderedMaps();
        due.is("map", x.size(x.put(x.put(x.map(true, false), 1, 1, 1), 2, 1, 1)), 2);
        due.is("row", x.size(x.add(x.row(), true, 1)), 1);
        due.is("heap", x.size(x.push(x.push(x.push(x.heap(), 1), 1), 1)), 3);
        due.is("the empty map", x.size(0), 0);
        due.is("the empty row", x.size(3), 0);
        due.is("the empty heap", x.size(5), 0);
        due.is("unknown", x.size(9), -1);
        due.is("below", x.size(-1), -1);
        due.is("most", x.size(Integer.MAX_VALUE), -1);
        due.is("least", x.size(Integer.MIN_VALUE), -1);
    }

    private static void sameMaps() {
        OrderedMaps x = new OrderedMaps();
        int a = x.put(x.put(x.map(false, false), 1, 1, 1), 2, 2, 1);
        int b = x.put(x.put(x.map(false, false), 2, 7, 0), 1, 7, 3);
        int strict = x.put(x.put(x.map(false, true), 2, 7, 1), 1, 7, 3);
        int bits = x.put(x.put(x.map(true, false), 1, 1, 1), 2, 2, 1);
        int other = x.put(x.put(x.map(false, false), 1, 1, 1), 3, 2, 1);
        int first = x.put(x.put(x.map(false, false), 0, 1, 1), 2, 2, 1);
        due.is("other values", x.same(a, b), 1);
        due.is("strict or not", x.same(a, strict), 1);
        due.is("another order", x.same(a, bits), 0);
        due.is("another last key", x.same(a, other), 0);
        due.is("another first key", x.same(a, first), 0);
        due.is("more keys", x.same(a, x.put(a, 5, 1, 1)), 0);
        due.is("fewer keys", x.same(a, x.drop(a, 2)), 0);
        due.is("itself", x.same(a, a), 1);
        due.is("empty ones", x.same(x.map(false, true), x.map(false, false)), 1);
        due.is("empty ones of two orders", x.same(x.map(false, true), x.map(true, true)), 0);
        due.is("nothing was needed", x.worked(), 2);
    }

    private static void sameRows() {
        OrderedMaps x = new OrderedMaps();
        int a = x.add(x.add(x.row(), false, 1), false, 2);
        int b = x.add(x.add(x.row(), true, 2), true, 1);
        due.is("the same items", x.same(a, b), 1);
        due.is("other places", x.same(a, x.turned(a)), 0);
        due.is("another item", x.same(a, x.replace(a, 1, 3)), 0);
        due.is("another first item", x.same(a, x.replace(a, 0, 3)), 0);
        due.is("fewer", x.same(a, x.cut(a, 1, 0)), 0);
        due.is("more", x.same(a, x.add(a, false, 2)), 0);
        due.is("more", x.same(x.add(a, false, 2), a), 0);
        due.is("empty ones", x.same(x.row(), x.row()), 1);
    }

    private static void sameHeaps() {
        OrderedMaps x = new OrderedMaps();
        int a = x.push(x.push(x.push(x.heap(), 1), 2), 1);
        int b = x.push(x.push(x.push(x.heap(), 2), 1), 1);
        int c = x.push(x.push(x.push(x.heap(), 2), 2), 1);
        due.is("the same items", x.same(a, b), 1);
        due.is("not as often", x.same(a, c), 0);
        due.is("fewer", x.same(a, x.pop(a)), 0);
        due.is("more", x.same(a, x.push(a, 2)), 0);
        due.is("popped and melded", x.same(x.meld(x.pop(a), x.push(x.heap(), 1)), a), 1);
        due.is("empty ones", x.same(x.heap(), x.heap()), 1);
    }

    private static void sameOfTwoSorts() {
        OrderedMaps x = new OrderedMaps();
        int[] empty = {x.map(false, false), x.row(), x.heap()};
        int[] full = {x.put(0, 1, 1, 1), x.add(1, true, 1), x.push(2, 1)};
        for (int i = 0; i < 3; i++) {
            for (int j = 0; j < 3; j++) {
                due.is("empty ones", x.same(empty[i], empty[j]), i == j ? 1 : 0);
                due.is("full ones", x.same(full[i], full[j]), i == j ? 1 : 0);
            }
            due.is("unknown", x.same(i, 6), -1);
            due.is("unknown", x.same(6, i), -1);
            due.is("below", x.same(i, -1), -1);
            due.is("below", x.same(-1, i), -1);
        }
        due.is("unknown ones", x.same(7, 7), -1);
    }

    private static void sound() {
        OrderedMaps x = new OrderedMaps();
        int m = x.put(x.map(true, false), -1, 1, 0);
        int s = x.put(x.map(true, true), -1, 1, 1);
        int r = x.add(x.row(), false, 1);
        int h = x.push(x.heap(), 1);
        for (int thing = 0; thing <= h; thing++) {
            due.is("thing " + thing, x.sound(thing), true);
        }
        due.is("lazy map", x.sound(x.put(m, 1, 1, 0)), true);
        due.is("strict map", x.sound(x.put(s, 1, 1, 1)), true);
        due.is("row", x.sound(x.add(r, true, 7)), true);
        due.is("heap", x.sound(x.push(h, -7)), true);
        due.is("unknown", x.sound(12), false);
        due.is("below", x.sound(-1), false);
        due.is("most", x.sound(Integer.MAX_VALUE), false);
        due.is("least", x.sound(Integer.MIN_VALUE), false);
        due.is("nothing was needed", x.worked(), 2);
    }

    private static void worked() {
        OrderedMaps x = new OrderedMaps();
        int s = x.put(x.map(false, true), 1, 8, 2);
        due.is("put", x.worked(), 1);
        due.fails("put", ArithmeticException.class, () -> x.put(s, 2, 8, 0));
        due.is("a failure counts", x.worked(), 2);
        int l = x.put(x.map(false, false), 1, 8, 2);
        due.is("lazy", x.worked(), 2);
        x.get(l, 1);
        x.get(l, 1);
        due.is("get", x.worked(), 3);
        int f = x.put(l, 0, 8, 0);
        due.fails("get", ArithmeticException.class, () -> x.get(f, 0));
        due.fails("fold", ArithmeticException.class, () -> x.fold(f, 0, 1));
        due.is("each failure counts", x.worked(), 5);
        due.is("dropped", x.size(x.drop(f, 0)), 1);
        due.is("asked twice", x.worked(), 5);
    }

    private static void told() {
        OrderedMaps x = new OrderedMaps();
        x.map(false, false);
        x.row();
        x.row();
        x.heap();
        x.heap();
        x.put(0, 1, 1, 1);
        x.push(3, 1);
        due.is("things", x.told(0), 7);
        due.is("maps", x.told(1), 2);
        due.is("rows", x.told(2), 2);
        due.is("heaps", x.told(3), 3);
        due.is("4", x.told(4), -2);
        due.is("-1", x.told(-1), -2);
        due.is("most", x.told(Integer.MAX_VALUE), -2);
        due.is("least", x.told(Integer.MIN_VALUE), -2);
    }

    private static final int MAP = 105;
    private static final int ROW = 166;
    private static final int HEAP = 227;
    private static final int OTHER = 228;

    /** 300 things: 0 to 3 empty maps, 4 a row, 5 a heap, MAP of 100 keys, ROW and HEAP of 60. */
    private static OrderedMaps full() {
        OrderedMaps x = new OrderedMaps();
        x.map(false, false);
        x.map(false, true);
        x.map(true, false);
        x.map(true, true);
        x.row();
        x.heap();
        int map = 1;
        for (int i = 0; i < 100; i++) {
            map = x.put(map, i, i, 1);
        }
        int row = x.row();
        for (int i = 0; i < 60; i++) {
            row = x.add(row, false, i);
        }
        int heap = x.heap();
        for (int i = 0; i < 60; i++) {
            heap = x.push(heap, i);
        }
        due.is("a map with another key", x.put(1, 777, 1, 1), OTHER);
        for (int i = OTHER + 1; i < 300; i++) {
            x.heap();
        }
        due.is("300 things", x.told(0), 300);
        due.is("the map", map, MAP);
        due.is("the row", row, ROW);
        due.is("the heap", heap, HEAP);
        return x;
    }

    private static void fullObject() {
        OrderedMaps x = full();
        int map = MAP;
        int row = ROW;
        int heap = HEAP;
        int unknown = 300;
        due.is("map", x.map(false, false), -4);
        due.is("put: -1 first", x.put(unknown, 1, 1, 1), -1);
        due.is("put: -4 ahead of -2", x.put(map, 100, 1, 1), -4);
        due.is("put: -4 ahead of the failure", x.put(map, 1, 1, 0), -4);
        due.is("nothing was worked", x.worked(), 101);
        due.is("drop: -1 first", x.drop(unknown, 1), -1);
        due.is("drop: -4", x.drop(map, 1), -4);
        due.is("drop: -4 ahead of -3", x.drop(map, 778), -4);
        due.is("union: -1 first", x.union(map, unknown), -1);
        due.is("union: -3 ahead of -4", x.union(map, 0), -3);
        due.is("union: -4", x.union(map, 1), -4);
        due.is("union: -4 ahead of -2", x.union(map, OTHER), -4);
        due.is("both: -1 first", x.both(unknown, map), -1);
        due.is("both: -3 ahead of -4", x.both(map, 3), -3);
        due.is("both: -4", x.both(map, 1), -4);
        due.is("less: -1 first", x.less(unknown, map), -1);
        due.is("less: -3 ahead of -4", x.less(map, 3), -3);
        due.is("less: -4", x.less(map, 1), -4);
        due.is("part: -1 first", x.part(unknown, 1, 2), -1);
        due.is("part: -2 ahead of -4", x.part(map, 1, 2), -2);
        due.is("part: -4", x.part(map, 1, 0), -4);
        due.is("part: -4", x.part(map, 1, 1), -4);
        due.is("kept: -1 first", x.kept(unknown, 0, 0), -1);
        due.is("kept: -2 ahead of -4", x.kept(map, 0, 0), -2);
        due.is("kept: -4", x.kept(map, 1, 0), -4);
        due.is("row", x.row(), -4);
        due.is("add: -1 first", x.add(unknown, true, 1), -1);
        due.is("add: -4", x.add(row, true, 1), -4);
        due.is("join: -1 first", x.join(row, unknown), -1);
        due.is("join: -4 ahead of -2", x.join(row, row), -4);
        due.is("cut: -1 first", x.cut(unknown, -1, 0), -1);
        due.is("cut: -2 ahead of -4", x.cut(row, 61, 0), -2);
        due.is("cut: -2 of the side ahead of -4", x.cut(row, 1, 2), -2);
        due.is("cut: -4", x.cut(row, 60, 0), -4);
        due.is("cut: -4", x.cut(row, 60, 1), -4);
        due.is("replace: -1 first", x.replace(unknown, -1, 0), -1);
        due.is("replace: -2 ahead of -4", x.replace(row, 60, 0), -2);
        due.is("replace: -4", x.replace(row, 59, 0), -4);
        due.is("turned: -1 first", x.turned(unknown), -1);
        due.is("turned: -4", x.turned(row), -4);
        due.is("heap", x.heap(), -4);
        due.is("push: -1 first", x.push(unknown, 1), -1);
        due.is("push: -4", x.push(heap, 1), -4);
        due.is("meld: -1 first", x.meld(heap, unknown), -1);
        due.is("meld: -4 ahead of -2", x.meld(heap, heap), -4);
        due.is("pop: -1 first", x.pop(unknown), -1);
        due.is("pop: -4", x.pop(heap), -4);
        due.is("pop: -4 ahead of -3", x.pop(5), -4);
        due.is("still 300 things", x.told(0), 300);
        due.is("the last is known", x.size(299), 0);
        due.is("the old map answers", x.fold(map, 0, 99), 4950);
        due.is("the old row answers", x.at(row, 59), 59);
        due.is("the old heap answers", x.least(heap), 0);
        due.fails("an empty heap", NoSuchElementException.class, () -> x.least(299));
        fullThings();
    }

    /** Where -4 comes ahead of -2, an object with 300 things tells of 100 items nothing. */
    private static void fullThings() {
        OrderedMaps x = new OrderedMaps();
        int row = x.add(x.row(), true, 1);
        int heap = x.push(x.heap(), 1);
        for (int i = 0; i < 99; i++) {
            row = x.add(row, true, 1);
            heap = x.push(heap, 1);
        }
        due.is("add", x.add(row, true, 1), -2);
        due.is("push", x.push(heap, 1), -2);
        for (int i = x.told(0); i < 300; i++) {
            x.row();
        }
        due.is("add: -4 ahead of -2", x.add(row, true, 1), -4);
        due.is("push: -4 ahead of -2", x.push(heap, 1), -4);
    }

    private static void objectsAreApart() {
        OrderedMaps x = new OrderedMaps();
        OrderedMaps y = new OrderedMaps();
        x.put(x.map(false, true), 1, 1, 1);
        due.is("y's things", y.told(0), 0);
        due.is("y's worked", y.worked(), 0);
        due.is("y's first", y.row(), 0);
        due.is("x's first", x.size(0), 0);
    }
}
