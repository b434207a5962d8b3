import java.util.NoSuchElementException;

/** The boundary cases that the document's terms name for many calls at once. */
public final class TermsEdgesTest {
    private static final long LEAST = Edges.LEAST;
    private static final long MOST = Edges.MOST;
    private static final Edges edges = new Edges();
    private static final Due due = edges.due;

    public static void main(String[] args) throws ReflectiveOperationException {
        edges.runAll(TermsEdgesTest.class);
    }

    @Edge(promise = 0, says = "An object is used for at most 512 calls")
    static void the512thCallIsAnswered() {
        OrderedMaps x = new OrderedMaps();
        x.map(false, false);
        for (int call = 2; call < 511; call++) {
            due.is("call " + call, x.put(0, call, call, 1), call < 301 ? call - 1 : -4);
        }
        due.is("call 511", x.get(299, 300), 300);
        due.is("call 512", x.worked(), 1);
    }

    @Edge(promise = 0, says = "THINGS have numbers from 0 as they are made")
    static void numbersGoFrom0OnForAllSortsTogether() {
        OrderedMaps x = new OrderedMaps();
        due.is("a row", x.row(), 0);
        due.is("a map", x.map(true, true), 1);
        due.is("a heap", x.heap(), 2);
        due.is("a row of another", x.turned(0), 3);
        due.is("a map of others", x.union(1, 1), 4);
        due.is("a heap of others", x.meld(2, 2), 5);
    }

    @Edge(promise = 0, says = "THINGS have numbers from 0 as they are made")
    static void refusedCallsTakeNoNumber() {
        OrderedMaps x = new OrderedMaps();
        int strict = x.map(false, true);
        due.is("-1", x.put(9, 1, 1, 1), -1);
        due.is("-2", x.part(strict, 1, 5), -2);
        due.is("-3", x.drop(strict, 1), -3);
        due.fails("put", ArithmeticException.class, () -> x.put(strict, 1, 1, 0));
        due.is("the next number", x.map(false, false), 1);
    }

    @Edge(promise = 0, says = "THINGS have numbers from 0 as they are made")
    static void callsThatOnlyAskTakeNoNumber() {
        OrderedMaps x = Edges.oneOfEach();
        x.has(1, 7);
        x.get(1, 7);
        x.key(1, 0);
        x.rank(1, 7);
        x.fold(1, 0, 9);
        x.at(3, 0);
        x.find(3, 0, 0);
        x.least(5);
        x.size(1);
        x.same(1, 3);
        x.sound(1);
        x.worked();
        x.told(0);
        due.is("the next number", x.heap(), 6);
    }

    @Edge(promise = 0, says = "300 at most")
    static void the300thThingIsKnownAndNo301stOne() {
        OrderedMaps x = new OrderedMaps();
        Edges.fill(x, 299);
        due.is("the 300th", x.map(false, false), 299);
        due.is("its size", x.size(299), 0);
        due.is("it is sound", x.sound(299), true);
        due.is("it is a map", x.has(299, 1), false);
        due.is("its rank", x.rank(299, 1), 0);
        edges.refused("the 301st", x, -4, y -> y.map(false, false));
        due.is("there is no 300", x.size(300), -1);
        due.is("300 is not sound", x.sound(300), false);
    }

    @Edge(promise = 0, says = "300 at most")
    static void with300ThingsAllOthersAreAskedAsBefore() {
        OrderedMaps x = Edges.oneOfEach();
        Edges.fill(x, 300);
        due.is("has", x.has(1, 7), true);
        due.is("get", x.get(1, 7), 7);
        due.is("worked", x.worked(), 1);
        due.is("key", x.key(1, 0), 7);
        due.is("rank", x.rank(1, 8), 1);
        due.is("fold", x.fold(1, 0, 9), 7);
        due.is("at", x.at(3, 0), 7);
        due.is("find", x.find(3, 0, 7), 0);
        due.is("least", x.least(5), 7);
        due.is("size", x.size(5), 1);
        due.is("same", x.same(298, 299), 1);
        due.is("sound", x.sound(1), true);
        due.fails("get of another key", NoSuchElementException.class, () -> x.get(1, 8));
    }

    @Edge(promise = 0, says = "and has 100 KEYS or ITEMS at most")
    static void aMapHas100Keys() {
        OrderedMaps x = new OrderedMaps();
        int map = Edges.mapOfMany(x, false, 0, 100);
        due.is("size", x.size(map), 100);
        due.is("the first", x.key(map, 0), 0);
        due.is("the last", x.key(map, 99), 99);
        due.is("all values", x.fold(map, 0, 99), 4950);
        due.is("each was worked", x.worked(), 100);
        due.is("sound", x.sound(map), true);
    }

    @Edge(promise = 0, says = "and has 100 KEYS or ITEMS at most")
    static void aRowHas100Items() {
        OrderedMaps x = new OrderedMaps();
        int row = Edges.rowOfMany(x, 100);
        due.is("size", x.size(row), 100);
        due.is("the last", x.at(row, 99), 99);
        due.is("found", x.find(row, 0, 99), 99);
        due.is("sound", x.sound(row), true);
    }

    @Edge(promise = 0, says = "and has 100 KEYS or ITEMS at most")
    static void aHeapHas100Items() {
        OrderedMaps x = new OrderedMaps();
        int heap = Edges.heapOfMany(x, 100);
        due.is("size", x.size(heap), 100);
        due.is("sound", x.sound(heap), true);
        for (int i = 0; i < 100; i++) {
            due.is("least", x.least(heap), i);
            heap = x.pop(heap);
        }
        due.is("none are left", x.size(heap), 0);
    }

    @Edge(promise = 0, says = "each once")
    static void aKeyIsInAMapOnce() {
        OrderedMaps x = new OrderedMaps();
        int map = Edges.mapOf(x, false, false, 0, 0, LEAST, MOST, LEAST, MOST);
        edges.keysAre(x, map, LEAST, 0, MOST);
    }

    @Edge(promise = 0, says = "SIGNED (as longs)")
    static void theSignedOrderGoesFromTheLeastLongToTheMost() {
        OrderedMaps x = new OrderedMaps();
        int map = Edges.mapOf(x, false, false, 0, MOST, -1, LEAST, 1);
        edges.keysAre(x, map, LEAST, -1, 0, 1, MOST);
    }

    @Edge(promise = 0, says = "by BITS (as longs without sign)")
    static void theOrderByBitsGoesFrom0ToMinus1() {
        OrderedMaps x = new OrderedMaps();
        int map = Edges.mapOf(x, true, false, -1, LEAST, MOST, 0, LEAST + 1, 1);
        edges.keysAre(x, map, 0, 1, MOST, LEAST, LEAST + 1, -1);
    }

    private static void quotient(long n, long d, long want) {
        OrderedMaps x = new OrderedMaps();
        int lazy = x.put(x.map(false, false), 4, n, d);
        int strict = x.put(x.map(true, true), 4, n, d);
        due.is(n + " / " + d + " lazy", x.get(lazy, 4), want);
        due.is(n + " / " + d + " strict", x.get(strict, 4), want);
        due.is(n + " / " + d + " in a fold", x.fold(strict, 4, 4), want);
    }

    @Edge(promise = 0, says = "cut off towards 0")
    static void quotientsAreCutOffTowards0() {
        quotient(7, 2, 3);
        quotient(-7, 2, -3);
        quotient(7, -2, -3);
        quotient(-7, -2, 3);
    }

    @Edge(promise = 0, says = "cut off towards 0")
    static void aSmallerNumeratorGives0() {
        quotient(1, 2, 0);
        quotient(-1, 2, 0);
        quotient(1, -2, 0);
        quotient(MOST, LEAST, 0);
        quotient(0, LEAST, 0);
    }

    @Edge(promise = 0, says = "of the least long and -1 it is the least long")
    static void theLeastLongAndMinus1GiveTheLeastLong() {
        quotient(LEAST, -1, LEAST);
    }

    @Edge(promise = 0, says = "in 64 bits")
    static void quotientsNearTheWrapAround() {
        quotient(LEAST, 1, LEAST);
        quotient(LEAST + 1, -1, MOST);
        quotient(MOST, -1, LEAST + 1);
        quotient(LEAST, LEAST, 1);
        quotient(LEAST, MOST, -1);
        quotient(MOST, MOST, 1);
    }

    @Edge(promise = 0, says = "with d 0 it FAILS")
    static void everyNumeratorFailsWithD0() {
        for (long n : new long[] {0, 1, -1, LEAST, MOST}) {
            OrderedMaps x = new OrderedMaps();
            int lazy = x.put(x.map(false, false), 4, n, 0);
            int strict = x.map(false, true);
            edges.thrown("get of " + n + " / 0", x, ArithmeticException.class, 1, y -> y.get(lazy, 4));
            edges.thrown("put of " + n + " / 0", x, ArithmeticException.class, 1, y -> y.put(strict, 4, n, 0));
        }
    }

    @Edge(promise = 0, says = "In a STRICT MAP it is WORKED when it is put")
    static void aStrictValueIsWorkedOnceAtItsPut() {
        OrderedMaps x = new OrderedMaps();
        int map = x.put(x.map(false, true), 1, 8, 2);
        due.is("worked at the put", x.worked(), 1);
        due.is("get", x.get(map, 1), 4);
        due.is("fold", x.fold(map, 0, 9), 4);
        due.is("in a part", x.get(x.part(map, 0, 1), 1), 4);
        due.is("not worked again", x.worked(), 1);
    }

    @Edge(promise = 0, says = "WORKED when it is needed")
    static void aLazyValueIsNotWorkedBeforeItIsNeeded() {
        OrderedMaps x = new OrderedMaps();
        int map = x.put(x.put(x.map(false, false), 1, 8, 2), 2, 8, 0);
        x.put(map, 1, 9, 3);
        x.drop(map, 2);
        x.union(map, map);
        x.both(map, map);
        x.less(map, 0);
        x.part(map, 2, 0);
        x.kept(map, 2, 0);
        x.has(map, 1);
        x.key(map, 0);
        x.rank(map, 2);
        x.size(map);
        x.same(map, 0);
        x.sound(map);
        due.is("no call needed it", x.worked(), 0);
        due.is("get needs it", x.get(map, 1), 4);
        due.is("worked", x.worked(), 1);
    }

    /** The maps that are made of a map with the keys 10, 11 and 12; all of them have the key 10. */
    private static int[] madeOf(OrderedMaps x, int map) {
        int other = x.put(x.put(0, 20, 1, 1), 10, 99, 1);
        return new int[] {x.put(map, 5, 1, 1), x.drop(map, 11), x.union(map, other), x.both(map, other),
            x.less(map, 0), x.part(map, 11, 0), x.part(map, 9, 1), x.kept(map, 2, 0), x.union(0, map)};
    }

    @Edge(promise = 0, says = "so that it is not WORKED again, in whatever MAP it is")
    static void aValueWorkedInTheOldMapIsKnownInEachNewOne() {
        OrderedMaps x = new OrderedMaps();
        int map = Edges.mapOf(x, false, false, 10, 11, 12);
        int[] made = madeOf(x, map);
        due.is("in the old map", x.get(map, 10), 10);
        for (int each : made) {
            due.is("in map " + each, x.get(each, 10), 10);
            due.is("worked once", x.worked(), 1);
        }
    }

    @Edge(promise = 0, says = "MAPS that are made of others have their very VALUES")
    static void aValueWorkedInANewMapIsKnownInTheOldOne() {
        for (int i = 0; i < 9; i++) {
            OrderedMaps x = new OrderedMaps();
            int map = Edges.mapOf(x, false, false, 10, 11, 12);
            int made = madeOf(x, map)[i];
            due.is("in map " + made, x.get(made, 10), 10);
            due.is("in the old map", x.get(map, 10), 10);
            due.is("worked once", x.worked(), 1);
        }
    }

    @Edge(promise = 0, says = "and the number is kept then")
    static void theNumber0IsKeptToo() {
        OrderedMaps x = new OrderedMaps();
        int map = x.put(x.put(x.map(false, false), 1, 0, 5), 2, LEAST, -1);
        for (int i = 0; i < 3; i++) {
            due.is("0", x.get(map, 1), 0);
            due.is("the least long", x.get(map, 2), LEAST);
        }
        due.is("each worked once", x.worked(), 2);
    }

    @Edge(promise = 0, says = "one that FAILED is WORKED again, and FAILS again, whenever it is needed")
    static void aFailedValueIsWorkedAtEachNeed() {
        OrderedMaps x = new OrderedMaps();
        int map = x.put(x.map(false, false), 1, 8, 0);
        for (int i = 0; i < 3; i++) {
            edges.thrown("get", x, ArithmeticException.class, 1, y -> y.get(map, 1));
            edges.thrown("fold", x, ArithmeticException.class, 1, y -> y.fold(map, 1, 1));
        }
        due.is("worked", x.worked(), 6);
    }

    @Edge(promise = 0, says = "one that FAILED is WORKED again, and FAILS again, whenever it is needed")
    static void aFailedValueFailsInWhateverMapItIs() {
        OrderedMaps x = new OrderedMaps();
        int map = x.put(x.put(x.map(false, false), 10, 8, 0), 11, 8, 1);
        for (int made : madeOf(x, map)) {
            edges.thrown("map " + made, x, ArithmeticException.class, 1, y -> y.get(made, 10));
        }
    }

    @Edge(promise = 0, says = "each as often as it was pushed")
    static void anItemIsInAHeapAsOftenAsItWasPushed() {
        OrderedMaps x = new OrderedMaps();
        edges.heapIs(x, Edges.heapOf(x, 5, 5, LEAST, 5, LEAST), LEAST, LEAST, 5, 5, 5);
    }

    @Edge(promise = 0, says = "then no THING is made (but a VALUE that FAILED was WORKED)")
    static void aFailedPutMakesNothingButIsCounted() {
        OrderedMaps x = new OrderedMaps();
        int map = x.put(x.map(false, true), 1, 8, 2);
        edges.thrown("put", x, ArithmeticException.class, 1, y -> y.put(map, 2, 8, 0));
        edges.keysAre(x, map, 1);
        due.is("its value stays", x.get(map, 1), 4);
        due.is("the next number", x.row(), 2);
    }

    @Edge(promise = 0, says = "all old ones stay as they are")
    static void noActChangesAnOldThing() {
        OrderedMaps x = new OrderedMaps();
        int map = Edges.mapOf(x, false, false, 1, 2, 3);
        int row = Edges.rowOf(x, 1, 2, 3);
        int heap = Edges.heapOf(x, 1, 2, 3);
        int[] made = {x.put(map, 2, 9, 1), x.put(map, 0, 9, 1), x.drop(map, 2), x.part(map, 2, 0), x.kept(map, 2, 1),
            x.add(row, true, 0), x.add(row, false, 4), x.join(row, row), x.cut(row, 2, 0), x.cut(row, 2, 1),
            x.replace(row, 1, 9), x.turned(row), x.push(heap, 0), x.meld(heap, heap), x.pop(heap)};
        due.is("the last made", made[made.length - 1], heap + made.length);
        edges.keysAre(x, map, 1, 2, 3);
        due.is("the values", x.fold(map, 1, 3), 6);
        edges.rowIs(x, row, 1, 2, 3);
        edges.heapIs(x, heap, 1, 2, 3);
    }
}
