import java.util.NoSuchElementException;

/** Promises 3 to 15: maps. */
public final class MapsTest {
    private static final long LEAST = Long.MIN_VALUE;
    private static final long MOST = Long.MAX_VALUE;
    private static final Due due = new Due();

    public static void main(String[] args) {
        map();
        put();
        putTakesThePlace();
        putOfQuotients();
        putStrict();
        putUpToTheLimit();
        drop();
        union();
        unionUpToTheLimit();
        both();
        less();
        onlyAlikeMaps();
        part();
        partByBits();
        kept();
        has();
        get();
        sharedValuesAreWorkedOnce();
        failedValuesAreWorkedAgain();
        key();
        rank();
        fold();
        foldByBits();
        foldStopsAtTheFirstFailure();
        oldMapsStay();
        due.end();
    }

    /** A new lazy map with these keys (key k has the value k / 1): its number. */
    private static int mapOf(OrderedMaps x, boolean bits, boolean strict, long... keys) {
        int map = x.map(bits, strict);
        for (long key : keys) {
            map = x.put(map, key, key, 1);
        }
        return map;
    }

    private static void keysAre(String what, OrderedMaps x, int map, long... keys) {
        due.is(what + ": size", x.size(map), keys.length);
        for (int i = 0; i < keys.length && i < x.size(map); i++) {
            due.is(what + ": key at " + i, x.key(map, i), keys[i]);
        }
        due.is(what + ": sound", x.sound(map), true);
    }

    private static void map() {
        OrderedMaps x = new OrderedMaps();
        due.is("map signed lazy", x.map(false, false), 0);
        due.is("map bits lazy", x.map(true, false), 1);
        due.is("map signed strict", x.map(false, true), 2);
        due.is("map bits strict", x.map(true, true), 3);
        for (int i = 0; i < 4; i++) {
            keysAre("empty map", x, i);
        }
        due.is("maps told", x.told(1), 4);
    }

    private static void put() {
        OrderedMaps x = new OrderedMaps();
        int m = mapOf(x, false, false, 5, -3, MOST, 0, LEAST, 7);
        keysAre("signed", x, m, LEAST, -3, 0, 5, 7, MOST);
        int b = mapOf(x, true, false, 5, -3, MOST, 0, LEAST, 7);
        keysAre("bits", x, b, 0, 5, 7, MOST, LEAST, -3);
        due.is("nothing was needed", x.worked(), 0);
        due.is("put unknown", x.put(99, 1, 1, 1), -1);
        due.is("put below", x.put(-1, 1, 1, 1), -1);
        int row = x.row();
        int heap = x.heap();
        due.is("put to a row", x.put(row, 1, 1, 1), -1);
        due.is("put to a heap", x.put(heap, 1, 1, 1), -1);
        due.is("put tells the number", x.put(m, 6, 1, 1), heap + 1);
    }

    private static void putTakesThePlace() {
        OrderedMaps x = new OrderedMaps();
        int m = mapOf(x, false, false, 1, 2, 3);
        due.is("old value", x.get(m, 2), 2);
        int n = x.put(m, 2, 50, 5);
        keysAre("put in place", x, n, 1, 2, 3);
        due.is("new value", x.get(n, 2), 10);
        due.is("the old map's value", x.get(m, 2), 2);
        due.is("two values were worked", x.worked(), 2);
        int again = x.put(n, 2, 50, 5);
        due.is("a value put anew", x.get(again, 2), 10);
        due.is("is another value", x.worked(), 3);
        int first = x.put(m, 1, 9, 1);
        keysAre("first in place", x, first, 1, 2, 3);
        int last = x.put(m, 3, 9, 1);
        keysAre("last in place", x, last, 1, 2, 3);
        due.is("first new", x.get(first, 1), 9);
        due.is("last new", x.get(last, 3), 9);
        due.is("last map's first", x.get(last, 1), 1);
    }

    private static void quotient(long n, long d, long want) {
        OrderedMaps x = new OrderedMaps();
        int lazy = x.put(x.map(false, false), 4, n, d);
        int strict = x.put(x.map(false, true), 4, n, d);
        due.is(n + " / " + d + " lazy", x.get(lazy, 4), want);
        due.is(n + " / " + d + " strict", x.get(strict, 4), want);
    }

    private static void putOfQuotients() {
        quotient(7, 2, 3);
        quotient(-7, 2, -3);
        quotient(7, -2, -3);
        quotient(-7, -2, 3);
        quotient(0, 5, 0);
        quotient(3, 5, 0);
        quotient(-3, 5, 0);
        quotient(LEAST, -1, LEAST);
        quotient(LEAST, 1, LEAST);
        quotient(LEAST, LEAST, 1);
        quotient(MOST, -1, -MOST);
        quotient(MOST, LEAST, 0);
        quotient(LEAST, MOST, -1);
        quotient(LEAST, 2, -4611686018427387904L);
    }

    private static void putStrict() {
        OrderedMaps x = new OrderedMaps();
        int m = x.map(false, true);
        due.fails("strict put", ArithmeticException.class, () -> x.put(m, 1, 8, 0));
        due.is("it was worked", x.worked(), 1);
        due.is("no thing was made", x.told(0), 1);
        due.fails("strict put of 0 / 0", ArithmeticException.class, () -> x.put(m, 1, 0, 0));
        due.is("it was worked", x.worked(), 2);
        int n = x.put(m, 1, 8, 2);
        due.is("the next number", n, 1);
        due.is("worked at once", x.worked(), 3);
        due.is("its value", x.get(n, 1), 4);
        due.is("fold", x.fold(n, 0, 5), 4);
        due.is("not worked again", x.worked(), 3);
        due.fails("strict put in place", ArithmeticException.class, () -> x.put(n, 1, 8, 0));
        due.is("the old value stays", x.get(n, 1), 4);
        due.is("worked", x.worked(), 4);
        due.is("an unknown map works nothing", x.put(7, 1, 8, 0), -1);
        due.is("worked", x.worked(), 4);
        int lazy = x.map(false, false);
        due.is("lazy put of a failure", x.put(lazy, 1, 8, 0), lazy + 1);
        due.is("worked", x.worked(), 4);
    }

    private static void putUpToTheLimit() {
        OrderedMaps x = new OrderedMaps();
        int m = x.map(false, true);
        for (int i = 0; i < 100; i++) {
            m = x.put(m, i, i, 1);
        }
        int full = m;
        due.is("100 keys", x.size(full), 100);
        due.is("sound", x.sound(full), true);
        due.is("one more", x.put(full, 100, 1, 1), -2);
        due.is("one more ahead", x.put(full, -1, 1, 1), -2);
        due.is("-2 comes ahead of the failure", x.put(full, 100, 1, 0), -2);
        due.is("which is not worked then", x.worked(), 100);
        due.fails("a failure in place", ArithmeticException.class, () -> x.put(full, 99, 1, 0));
        due.is("in place of another", x.put(full, 50, 77, 7), 101);
        due.is("still 100", x.size(101), 100);
        due.is("the new value", x.get(101, 50), 11);
        int fewer = x.drop(full, 0);
        due.is("room again", x.size(x.put(fewer, 500, 1, 1)), 100);
    }

    private static void drop() {
        OrderedMaps x = new OrderedMaps();
        int m = mapOf(x, false, false, 1, 2, 3);
        keysAre("drop first", x, x.drop(m, 1), 2, 3);
        keysAre("drop middle", x, x.drop(m, 2), 1, 3);
        keysAre("drop last", x, x.drop(m, 3), 1, 2);
        due.is("drop another", x.drop(m, 4), -3);
        due.is("drop of an empty one", x.drop(0, 4), -3);
        due.is("drop unknown", x.drop(50, 1), -1);
        due.is("drop below", x.drop(-1, 1), -1);
        due.is("no more things", x.told(0), 7);
        int row = x.row();
        due.is("drop of a row", x.drop(row, 1), -1);
        keysAre("drop the only one", x, x.drop(mapOf(x, true, true, -1), -1));
    }

    private static void union() {
        OrderedMaps x = new OrderedMaps();
        int a = mapOf(x, false, false, 1, 3, 5);
        int b = x.put(x.put(x.put(x.map(false, false), 3, 300, 1), 4, 400, 1), 9, 900, 1);
        int u = x.union(a, b);
        keysAre("union", x, u, 1, 3, 4, 5, 9);
        due.is("a's value", x.get(u, 3), 3);
        due.is("b's value", x.get(u, 4), 400);
        int v = x.union(b, a);
        keysAre("union the other way", x, v, 1, 3, 4, 5, 9);
        due.is("b's value", x.get(v, 3), 300);
        due.is("a's other value", x.get(v, 5), 5);
        int empty = x.map(false, false);
        keysAre("with an empty one", x, x.union(a, empty), 1, 3, 5);
        keysAre("of an empty one", x, x.union(empty, a), 1, 3, 5);
        keysAre("of empty ones", x, x.union(empty, empty));
        keysAre("with itself", x, x.union(a, a), 1, 3, 5);
        int low = mapOf(x, true, false, 1, -5);
        int high = mapOf(x, true, false, -9, 2, LEAST);
        keysAre("by bits", x, x.union(low, high), 1, 2, LEAST, -9, -5);
        keysAre("one behind the other", x, x.union(mapOf(x, false, false, 7, 8), mapOf(x, false, false, 1, 2)),
                1, 2, 7, 8);
    }

    private static int stretch(OrderedMaps x, int from, int to) {
        int map = x.map(false, false);
        for (int i = from; i < to; i++) {
            map = x.put(map, i, i, 1);
        }
        return map;
    }

    private static void unionUpToTheLimit() {
        OrderedMaps x = new OrderedMaps();
        int a = stretch(x, 0, 60);
        int b = stretch(x, 40, 100);
        int u = x.union(a, b);
        due.is("100 keys", x.size(u), 100);
        due.is("sound", x.sound(u), true);
        int more = x.put(b, 100, 1, 1);
        int things = x.told(0);
        due.is("101 keys", x.union(a, more), -2);
        due.is("101 keys", x.union(more, a), -2);
        due.is("no thing was made", x.told(0), things);
        due.is("a full one with a part of it", x.size(x.union(u, a)), 100);
        due.is("both of many", x.size(x.both(a, more)), 20);
    }

    private static void both() {
        OrderedMaps x = new OrderedMaps();
        int a = mapOf(x, true, false, 1, 3, 5, -1);
        int b = x.put(x.put(x.put(x.map(true, false), 3, 300, 1), 4, 400, 1), -1, 900, 1);
        int c = x.both(a, b);
        keysAre("both", x, c, 3, -1);
        due.is("a's value", x.get(c, 3), 3);
        due.is("b's value", x.get(x.both(b, a), 3), 300);
        keysAre("with itself", x, x.both(a, a), 1, 3, 5, -1);
        keysAre("nothing in common", x, x.both(a, x.map(true, false)));
        keysAre("of an empty one", x, x.both(x.map(true, false), a));
    }

    private static void less() {
        OrderedMaps x = new OrderedMaps();
        int a = mapOf(x, false, false, 1, 3, 5, -1);
        int b = mapOf(x, false, false, 3, 4, -1);
        keysAre("less", x, x.less(a, b), 1, 5);
        keysAre("less the other way", x, x.less(b, a), 4);
        keysAre("less itself", x, x.less(a, a));
        keysAre("less nothing", x, x.less(a, x.map(false, false)), -1, 1, 3, 5);
        keysAre("nothing less it", x, x.less(x.map(false, false), a));
        due.is("its value", x.get(x.less(a, b), 5), 5);
    }

    private static void onlyAlikeMaps() {
        OrderedMaps x = new OrderedMaps();
        int[] kinds = {x.map(false, false), x.map(false, true), x.map(true, false), x.map(true, true)};
        for (int a : kinds) {
            for (int b : kinds) {
                if (a != b) {
                    due.is("union", x.union(a, b), -3);
                    due.is("both", x.both(a, b), -3);
                    due.is("less", x.less(a, b), -3);
                }
            }
        }
        int row = x.row();
        for (int other : new int[] {row, -1, 44, Integer.MIN_VALUE, Integer.MAX_VALUE}) {
            due.is("union", x.union(0, other), -1);
            due.is("union", x.union(other, 0), -1);
            due.is("both", x.both(0, other), -1);
            due.is("both", x.both(other, 0), -1);
            due.is("less", x.less(0, other), -1);
            due.is("less", x.less(other, 0), -1);
        }
        due.is("no thing was made", x.told(0), 5);
        int strict = x.union(x.put(1, 4, 8, 2), x.put(1, 5, 8, 2));
        due.fails("a union of strict maps is strict", ArithmeticException.class, () -> x.put(strict, 4, 1, 0));
        due.is("strict with strict", x.union(strict, 1) > 0, true);
        due.is("a union of strict maps and lazy", x.union(strict, 0), -3);
        due.is("a both of strict maps and bits", x.both(x.both(strict, 1), 3), -3);
        due.is("a less of strict maps and lazy", x.less(x.less(strict, 1), 0), -3);
    }

    private static void part() {
        OrderedMaps x = new OrderedMaps();
        int m = mapOf(x, false, false, LEAST, -4, 0, 4, MOST);
        keysAre("before 0", x, x.part(m, 0, 0), LEAST, -4);
        keysAre("behind 0", x, x.part(m, 0, 1), 4, MOST);
        keysAre("before 1", x, x.part(m, 1, 0), LEAST, -4, 0);
        keysAre("behind 1", x, x.part(m, 1, 1), 4, MOST);
        keysAre("before the least", x, x.part(m, LEAST, 0));
        keysAre("behind the least", x, x.part(m, LEAST, 1), -4, 0, 4, MOST);
        keysAre("before the most", x, x.part(m, MOST, 0), LEAST, -4, 0, 4);
        keysAre("behind the most", x, x.part(m, MOST, 1));
        int things = x.told(0);
        due.is("side 2", x.part(m, 0, 2), -2);
        due.is("side -1", x.part(m, 0, -1), -2);
        due.is("unknown", x.part(99, 0, 5), -1);
        due.is("no thing was made", x.told(0), things);
        int row = x.row();
        due.is("of a row", x.part(row, 0, 0), -1);
        due.is("its values", x.get(x.part(m, 0, 1), 4), 4);
        keysAre("of an empty one", x, x.part(0, 0, 1));
    }

    private static void partByBits() {
        OrderedMaps x = new OrderedMaps();
        int m = mapOf(x, true, true, LEAST, -4, 0, 4, MOST);
        keysAre("before -1", x, x.part(m, -1, 0), 0, 4, MOST, LEAST, -4);
        keysAre("behind -1", x, x.part(m, -1, 1));
        keysAre("before the least long", x, x.part(m, LEAST, 0), 0, 4, MOST);
        keysAre("behind the least long", x, x.part(m, LEAST, 1), -4);
        keysAre("behind 5", x, x.part(m, 5, 1), MOST, LEAST, -4);
        int p = x.part(m, 0, 1);
        keysAre("behind 0", x, p, 4, MOST, LEAST, -4);
        keysAre("the part has the order", x, x.put(p, -9, 1, 1), 4, MOST, LEAST, -9, -4);
        due.fails("the part is strict", ArithmeticException.class, () -> x.put(p, 1, 1, 0));
    }

    private static void kept() {
        OrderedMaps x = new OrderedMaps();
        int m = mapOf(x, false, false, -7, -6, -1, 0, 1, 5, 6);
        keysAre("0 of 3", x, x.kept(m, 3, 0), -6, 0, 6);
        keysAre("1 of 3", x, x.kept(m, 3, 1), 1);
        keysAre("2 of 3", x, x.kept(m, 3, 2), -7, -1, 5);
        keysAre("3 of 3", x, x.kept(m, 3, 3));
        keysAre("-1 of 3", x, x.kept(m, 3, -1));
        keysAre("0 of 1", x, x.kept(m, 1, 0), -7, -6, -1, 0, 1, 5, 6);
        keysAre("the most - 1", x, x.kept(m, MOST, MOST - 1), -1);
        int things = x.told(0);
        due.is("m 0", x.kept(m, 0, 0), -2);
        due.is("m -1", x.kept(m, -1, 0), -2);
        due.is("m least", x.kept(m, LEAST, 0), -2);
        due.is("unknown", x.kept(99, 0, 0), -1);
        due.is("no thing was made", x.told(0), things);
        int row = x.row();
        due.is("of a row", x.kept(row, 1, 0), -1);
        int b = mapOf(x, true, false, -1, LEAST, 4, 2);
        keysAre("bits: -1 leaves 2 of 3", x, x.kept(b, 3, 2), 2, -1);
        keysAre("bits: 1 of 3", x, x.kept(b, 3, 1), 4, LEAST);
        due.is("its values", x.get(x.kept(m, 3, 1), 1), 1);
        keysAre("of an empty one", x, x.kept(0, 3, 1));
    }

    private static void has() {
        OrderedMaps x = new OrderedMaps();
        int m = mapOf(x, true, false, 2, -2, 8);
        due.is("2", x.has(m, 2), true);
        due.is("-2", x.has(m, -2), true);
        due.is("8", x.has(m, 8), true);
        due.is("0", x.has(m, 0), false);
        due.is("3", x.has(m, 3), false);
        due.is("-1", x.has(m, -1), false);
        due.is("an empty one", x.has(0, 2), false);
        due.is("unknown", x.has(77, 2), false);
        due.is("below", x.has(-1, 2), false);
        int row = x.add(x.row(), true, 2);
        due.is("a row", x.has(row, 2), false);
    }

    private static void get() {
        OrderedMaps x = new OrderedMaps();
        int m = x.put(x.put(x.map(false, false), 1, 9, 2), 2, 9, 0);
        due.is("9 / 2", x.get(m, 1), 4);
        due.is("worked", x.worked(), 1);
        due.is("9 / 2 again", x.get(m, 1), 4);
        due.is("not worked again", x.worked(), 1);
        due.fails("unknown", IllegalArgumentException.class, () -> x.get(9, 1));
        due.fails("below", IllegalArgumentException.class, () -> x.get(-1, 1));
        int row = x.row();
        due.fails("a row", IllegalArgumentException.class, () -> x.get(row, 1));
        int heap = x.heap();
        due.fails("a heap", IllegalArgumentException.class, () -> x.get(heap, 1));
        due.fails("another key", NoSuchElementException.class, () -> x.get(m, 3));
        due.fails("a key ahead", NoSuchElementException.class, () -> x.get(m, -3));
        due.fails("an empty one", NoSuchElementException.class, () -> x.get(0, 1));
        due.is("nothing was worked", x.worked(), 1);
        due.fails("9 / 0", ArithmeticException.class, () -> x.get(m, 2));
        due.is("worked", x.worked(), 2);
    }

    private static void sharedValuesAreWorkedOnce() {
        OrderedMaps x = new OrderedMaps();
        int m = mapOf(x, false, false, 10, 11, 12);
        int other = mapOf(x, false, false, 20);
        int[] made = {x.put(m, 5, 1, 1), x.drop(m, 11), x.union(m, other), x.union(other, m),
            x.both(m, m), x.less(m, other), x.part(m, 11, 0), x.kept(m, 2, 0)};
        due.is("making needs nothing", x.worked(), 0);
        due.is("worked in the last", x.get(made[made.length - 1], 10), 10);
        for (int map : made) {
            due.is("known in map " + map, x.get(map, 10), 10);
        }
        due.is("known in the first", x.get(m, 10), 10);
        due.is("worked once", x.worked(), 1);
        due.is("fold works the others", x.fold(m, 0, 99), 33);
        due.is("worked", x.worked(), 3);
        due.is("fold of the union", x.fold(made[2], 0, 99), 53);
        due.is("worked", x.worked(), 4);
        x.size(m);
        x.same(m, other);
        x.sound(m);
        x.has(m, 10);
        x.rank(m, 10);
        x.key(m, 0);
        due.is("the others need nothing", x.worked(), 4);
    }

    private static void failedValuesAreWorkedAgain() {
        OrderedMaps x = new OrderedMaps();
        int m = x.put(x.map(false, false), 1, 5, 0);
        int n = x.put(m, 2, 6, 1);
        due.fails("first", ArithmeticException.class, () -> x.get(m, 1));
        due.fails("again", ArithmeticException.class, () -> x.get(m, 1));
        due.fails("in another map", ArithmeticException.class, () -> x.get(n, 1));
        due.fails("in a fold", ArithmeticException.class, () -> x.fold(n, 1, 1));
        due.is("worked", x.worked(), 4);
        due.is("the other value", x.get(n, 2), 6);
        due.is("in place of the failure", x.get(x.put(n, 1, 8, 4), 1), 2);
        due.is("worked", x.worked(), 6);
        due.is("sound", x.sound(m), true);
    }

    private static void key() {
        OrderedMaps x = new OrderedMaps();
        int m = mapOf(x, false, false, 3, -3);
        due.is("first", x.key(m, 0), -3);
        due.is("last", x.key(m, 1), 3);
        due.fails("behind", IndexOutOfBoundsException.class, () -> x.key(m, 2));
        due.fails("-1", IndexOutOfBoundsException.class, () -> x.key(m, -1));
        due.fails("least", IndexOutOfBoundsException.class, () -> x.key(m, Integer.MIN_VALUE));
        due.fails("most", IndexOutOfBoundsException.class, () -> x.key(m, Integer.MAX_VALUE));
        due.fails("an empty one", IndexOutOfBoundsException.class, () -> x.key(0, 0));
        due.fails("unknown", IllegalArgumentException.class, () -> x.key(9, 9));
        due.fails("below", IllegalArgumentException.class, () -> x.key(-1, 0));
        int row = x.add(x.row(), true, 1);
        due.fails("a row", IllegalArgumentException.class, () -> x.key(row, 0));
    }

    private static void rank() {
        OrderedMaps x = new OrderedMaps();
        int m = mapOf(x, false, false, LEAST, -1, 0, 7, MOST);
        long[] asked = {LEAST, LEAST + 1, -1, 0, 1, 7, 8, MOST};
        int[] signed = {0, 1, 1, 2, 3, 3, 4, 4};
        int b = mapOf(x, true, false, LEAST, -1, 0, 7, MOST);
        int[] bits = {3, 4, 4, 0, 1, 1, 2, 2};
        for (int i = 0; i < asked.length; i++) {
            due.is("signed rank of " + asked[i], x.rank(m, asked[i]), signed[i]);
            due.is("rank by bits of " + asked[i], x.rank(b, asked[i]), bits[i]);
        }
        due.is("an empty one", x.rank(0, 5), 0);
        due.is("unknown", x.rank(99, 5), -1);
        due.is("below", x.rank(-1, 5), -1);
        int heap = x.heap();
        due.is("a heap", x.rank(heap, 5), -1);
    }

    private static void fold() {
        OrderedMaps x = new OrderedMaps();
        int m = mapOf(x, false, false, -10, 1, 20, 300);
        due.is("one", x.fold(m, 1, 1), 1);
        due.is("worked", x.worked(), 1);
        due.is("two", x.fold(m, 1, 20), 21);
        due.is("worked", x.worked(), 2);
        due.is("between keys", x.fold(m, 2, 299), 20);
        due.is("none between", x.fold(m, 2, 19), 0);
        due.is("the wrong way", x.fold(m, 20, 1), 0);
        due.is("worked", x.worked(), 2);
        due.is("all", x.fold(m, LEAST, MOST), 311);
        due.is("worked", x.worked(), 4);
        due.is("an empty one", x.fold(0, LEAST, MOST), 0);
        due.fails("unknown", IllegalArgumentException.class, () -> x.fold(99, 0, 0));
        due.fails("below", IllegalArgumentException.class, () -> x.fold(-1, 0, 0));
        int row = x.row();
        due.fails("a row", IllegalArgumentException.class, () -> x.fold(row, 0, 0));
        int big = x.put(x.put(x.map(false, true), 1, MOST, 1), 2, 3, 1);
        due.is("in 64 bits", x.fold(big, 0, 9), LEAST + 2);
        int small = x.put(x.put(x.map(false, true), 1, LEAST, -1), 2, -1, 1);
        due.is("in 64 bits", x.fold(small, 0, 9), MOST);
    }

    private static void foldByBits() {
        OrderedMaps x = new OrderedMaps();
        int m = mapOf(x, true, false, 1, 2, LEAST, -5);
        due.is("from 2 to -5", x.fold(m, 2, -5), LEAST - 3);
        due.is("from -5 to 2", x.fold(m, -5, 2), 0);
        due.is("from the most to -1", x.fold(m, MOST, -1), LEAST - 5);
        due.is("from 0 to the most", x.fold(m, 0, MOST), 3);
    }

    private static void foldStopsAtTheFirstFailure() {
        OrderedMaps x = new OrderedMaps();
        int m = x.map(false, false);
        m = x.put(x.put(x.put(x.put(m, 4, 40, 1), 3, 30, 0), 2, 20, 1), 1, 10, 1);
        int last = m;
        due.fails("fold", ArithmeticException.class, () -> x.fold(last, 1, 4));
        due.is("1, 2 and 3 were worked", x.worked(), 3);
        due.is("1 and 2 are known", x.fold(last, 1, 2), 30);
        due.is("worked", x.worked(), 3);
        due.is("4 was not needed", x.get(last, 4), 40);
        due.is("worked", x.worked(), 4);
        due.fails("fold again", ArithmeticException.class, () -> x.fold(last, 1, 4));
        due.is("worked", x.worked(), 5);
        int b = x.put(x.put(x.map(true, false), -1, 5, 0), 7, 6, 1);
        due.fails("by bits", ArithmeticException.class, () -> x.fold(b, 0, -1));
        due.is("7 comes ahead of -1", x.worked(), 7);
    }

    private static void oldMapsStay() {
        OrderedMaps x = new OrderedMaps();
        int m = mapOf(x, false, false, 1, 2, 3);
        x.put(m, 0, 1, 1);
        x.put(m, 2, 1, 1);
        x.put(m, 9, 1, 1);
        x.drop(m, 2);
        x.union(m, x.put(0, 5, 1, 1));
        x.both(m, 0);
        x.less(m, m);
        x.part(m, 2, 0);
        x.kept(m, 2, 0);
        keysAre("the old map", x, m, 1, 2, 3);
        keysAre("the empty map", x, 0);
        due.is("its values", x.fold(m, 0, 9), 6);
    }
}
