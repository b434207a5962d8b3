import java.util.NoSuchElementException;

/** The boundary cases of promises 3 to 15: maps. */
public final class MapEdgesTest {
    private static final long LEAST = Edges.LEAST;
    private static final long MOST = Edges.MOST;
    /** Things of the other sorts in Edges.oneOfEach(). */
    private static final int[] NO_MAPS = {2, 3, 4, 5};
    private static final int[] NO_SIDES = {-1, 2, 3, Integer.MIN_VALUE, Integer.MAX_VALUE};
    private static final Edges edges = new Edges();
    private static final Due due = edges.due;

    public static void main(String[] args) throws ReflectiveOperationException {
        edges.runAll(MapEdgesTest.class);
    }

    /** An object with 300 things, of which 0 is an empty map. */
    private static OrderedMaps fullWithAMap(boolean bits, boolean strict) {
        OrderedMaps x = new OrderedMaps();
        x.map(bits, strict);
        Edges.fill(x, 300);
        return x;
    }

    // PROMISE 3

    @Edge(promise = 3, says = "A MAP without KEYS")
    static void aNewMapHasNoKeysInEachOrder() {
        OrderedMaps x = new OrderedMaps();
        for (int kind = 0; kind < 4; kind++) {
            int map = x.map(kind % 2 == 1, kind > 1);
            edges.keysAre(x, map);
            due.is("its number", map, kind);
        }
        due.is("nothing was worked", x.worked(), 0);
    }

    @Edge(promise = 3, says = "-4")
    static void map301IsRefused() {
        edges.lastThing(new OrderedMaps(), y -> y.map(true, true));
    }

    // PROMISE 4

    @Edge(promise = 4, says = "-1")
    static void putToNoMap() {
        edges.unknown((y, map) -> y.put(map, 1, 1, 1), NO_MAPS);
    }

    @Edge(promise = 4, says = "-1; -4; -2; ArithmeticException")
    static void putToNoMapIsMinus1EvenWhereTheValueFails() {
        edges.unknown((y, map) -> y.put(map, 1, 1, 0), NO_MAPS);
    }

    @Edge(promise = 4, says = "-1; -4")
    static void putToNoMapIsMinus1EvenWith300Things() {
        OrderedMaps x = fullWithAMap(false, true);
        for (int map : new int[] {-1, 1, 299, 300}) {
            edges.refused("put to " + map, x, -1, y -> y.put(map, 1, 1, 0));
        }
    }

    @Edge(promise = 4, says = "-4")
    static void putOfThing301() {
        OrderedMaps x = new OrderedMaps();
        x.map(false, false);
        edges.lastThing(x, y -> y.put(0, 1, 1, 1));
    }

    @Edge(promise = 4, says = "-4")
    static void putInPlaceOfThing301() {
        OrderedMaps x = new OrderedMaps();
        Edges.mapOf(x, false, false, 1);
        edges.lastThing(x, y -> y.put(1, 1, 5, 1));
    }

    @Edge(promise = 4, says = "-4; -2")
    static void putIsMinus4AheadOfMinus2() {
        OrderedMaps x = new OrderedMaps();
        int map = Edges.mapOfMany(x, false, 0, 100);
        edges.refused("with room for things", x, -2, y -> y.put(map, 100, 1, 1));
        Edges.fill(x, 300);
        edges.refused("with 300 things", x, -4, y -> y.put(map, 100, 1, 1));
    }

    @Edge(promise = 4, says = "-4; -2; ArithmeticException")
    static void putIsMinus4AheadOfTheFailureWhichIsNotWorked() {
        edges.refused("put", fullWithAMap(false, true), -4, y -> y.put(0, 1, 1, 0));
    }

    @Edge(promise = 4, says = "-2; ArithmeticException")
    static void putIsMinus2AheadOfTheFailureWhichIsNotWorked() {
        OrderedMaps x = new OrderedMaps();
        int map = Edges.mapOfMany(x, true, 0, 100);
        edges.refused("put", x, -2, y -> y.put(map, 100, 1, 0));
    }

    @Edge(promise = 4, says = "-2")
    static void putOfKey101() {
        OrderedMaps x = new OrderedMaps();
        int map = Edges.mapOfMany(x, false, 0, 99);
        int full = x.put(map, 99, 1, 1);
        due.is("key 100", x.size(full), 100);
        for (long key : new long[] {100, -1, LEAST, MOST}) {
            edges.refused("key 101", x, -2, y -> y.put(full, key, 1, 1));
        }
        due.is("it stays", x.size(full), 100);
    }

    @Edge(promise = 4, says = "in place of the one that it had")
    static void putInPlaceWith100Keys() {
        OrderedMaps x = new OrderedMaps();
        int map = Edges.mapOfMany(x, false, 0, 100);
        for (int key : new int[] {0, 50, 99}) {
            int next = x.told(0);
            due.is("put", x.put(map, key, 700, 7), next);
            due.is("still 100 keys", x.size(next), 100);
            due.is("its value", x.get(next, key), 100);
            due.is("the old one", x.get(map, key), key);
        }
    }

    @Edge(promise = 4, says = "in place of the one that it had")
    static void putInPlaceDoesNotNeedTheOldValue() {
        OrderedMaps x = new OrderedMaps();
        int failing = x.put(x.map(false, false), 1, 8, 0);
        int mended = x.put(failing, 1, 8, 2);
        due.is("nothing was worked", x.worked(), 0);
        due.is("the new value", x.get(mended, 1), 4);
        edges.thrown("the old value", x, ArithmeticException.class, 1, y -> y.get(failing, 1));
    }

    @Edge(promise = 4, says = "A MAP that has a KEY with a VALUE n and d besides")
    static void putOfTheSameNAndDIsAValueOfItsOwn() {
        OrderedMaps x = new OrderedMaps();
        int first = x.put(x.map(false, false), 1, 8, 2);
        int again = x.put(first, 1, 8, 2);
        due.is("the first", x.get(first, 1), 4);
        due.is("worked", x.worked(), 1);
        due.is("the other", x.get(again, 1), 4);
        due.is("worked by itself", x.worked(), 2);
    }

    @Edge(promise = 4, says = "it is STRICT, and the VALUE FAILS")
    static void strictPutFailsBesidesAndInPlace() {
        for (boolean bits : new boolean[] {false, true}) {
            OrderedMaps x = new OrderedMaps();
            int map = x.put(x.map(bits, true), 1, 8, 2);
            edges.thrown("to the empty map", x, ArithmeticException.class, 1, y -> y.put(0, 1, 8, 0));
            edges.thrown("besides", x, ArithmeticException.class, 1, y -> y.put(map, 2, 8, 0));
            edges.thrown("in place", x, ArithmeticException.class, 1, y -> y.put(map, 1, 8, 0));
            due.is("the old value", x.get(map, 1), 4);
            due.is("the next number", x.row(), 2);
        }
    }

    @Edge(promise = 4, says = "it is STRICT, and the VALUE FAILS")
    static void strictPutInPlaceWith100KeysFails() {
        OrderedMaps x = new OrderedMaps();
        int map = Edges.mapOfMany(x, true, 0, 100);
        edges.thrown("put", x, ArithmeticException.class, 1, y -> y.put(map, 99, 1, 0));
    }

    @Edge(promise = 4, says = "it is STRICT, and the VALUE FAILS")
    static void lazyPutOfAFailingValueIsDone() {
        OrderedMaps x = new OrderedMaps();
        x.map(false, false);
        due.is("put", x.put(0, 1, 8, 0), 1);
        edges.keysAre(x, 1, 1);
        due.is("nothing was worked", x.worked(), 0);
    }

    @Edge(promise = 4, says = "it is STRICT, and the VALUE FAILS")
    static void mapsMadeOfStrictOnesAreStrictOfLazyOnesLazy() {
        for (boolean strict : new boolean[] {false, true}) {
            OrderedMaps x = new OrderedMaps();
            int map = Edges.mapOf(x, false, strict, 1, 2);
            int[] made = {x.put(map, 3, 1, 1), x.drop(map, 1), x.union(map, map), x.both(map, map), x.less(map, 0),
                x.part(map, 2, 0), x.part(map, 1, 1), x.kept(map, 1, 0)};
            for (int each : made) {
                if (strict) {
                    edges.thrown("map " + each, x, ArithmeticException.class, 1, y -> y.put(each, 9, 8, 0));
                } else {
                    int next = x.told(0);
                    due.is("map " + each, x.put(each, 9, 8, 0), next);
                }
            }
        }
    }

    // PROMISE 5

    @Edge(promise = 5, says = "-1")
    static void dropOfNoMap() {
        edges.unknown((y, map) -> y.drop(map, 7), NO_MAPS);
    }

    @Edge(promise = 5, says = "-1; -4; -3")
    static void dropOfNoMapIsMinus1EvenWith300Things() {
        OrderedMaps x = fullWithAMap(false, false);
        edges.refused("of a row", x, -1, y -> y.drop(1, 1));
        edges.refused("of 300", x, -1, y -> y.drop(300, 1));
    }

    @Edge(promise = 5, says = "-4")
    static void dropOfThing301() {
        OrderedMaps x = new OrderedMaps();
        int map = Edges.mapOf(x, false, false, 1);
        edges.lastThing(x, y -> y.drop(map, 1));
    }

    @Edge(promise = 5, says = "-4; -3")
    static void dropIsMinus4AheadOfMinus3() {
        edges.refused("drop", fullWithAMap(false, false), -4, y -> y.drop(0, 1));
    }

    @Edge(promise = 5, says = "-3 it has not the KEY")
    static void dropOfAKeyThatIsNotThere() {
        for (boolean bits : new boolean[] {false, true}) {
            OrderedMaps x = new OrderedMaps();
            int map = Edges.mapOf(x, bits, false, 1, 3, -3);
            for (long key : new long[] {0, 2, 4, -1, -2, -4, LEAST, MOST}) {
                edges.refused("key " + key, x, -3, y -> y.drop(map, key));
            }
        }
    }

    @Edge(promise = 5, says = "-3 it has not the KEY")
    static void dropOfAnEmptyMap() {
        OrderedMaps x = new OrderedMaps();
        x.map(false, false);
        edges.refused("drop", x, -3, y -> y.drop(0, 0));
    }

    @Edge(promise = 5, says = "-3 it has not the KEY")
    static void dropTwiceIsMinus3() {
        OrderedMaps x = new OrderedMaps();
        int map = x.drop(Edges.mapOf(x, false, false, 1, 2), 1);
        edges.refused("drop", x, -3, y -> y.drop(map, 1));
    }

    @Edge(promise = 5, says = "A MAP without a KEY")
    static void dropOfTheFirstTheLastAndTheOnlyKey() {
        OrderedMaps x = new OrderedMaps();
        int map = Edges.mapOf(x, false, false, LEAST, 0, MOST);
        edges.keysAre(x, x.drop(map, LEAST), 0, MOST);
        edges.keysAre(x, x.drop(map, MOST), LEAST, 0);
        edges.keysAre(x, x.drop(Edges.mapOf(x, true, false, -1), -1));
    }

    @Edge(promise = 5, says = "A MAP without a KEY")
    static void dropOfAFailingValueNeedsNothing() {
        OrderedMaps x = new OrderedMaps();
        int map = x.put(Edges.mapOf(x, false, false, 1), 2, 8, 0);
        due.is("fold without it", x.fold(x.drop(map, 2), 0, 9), 1);
        due.is("worked", x.worked(), 1);
    }

    @Edge(promise = 5, says = "A MAP without a KEY")
    static void dropOf100KeysLeavesRoomForOne() {
        OrderedMaps x = new OrderedMaps();
        int map = x.drop(Edges.mapOfMany(x, false, 0, 100), 50);
        due.is("99 keys", x.size(map), 99);
        int full = x.put(map, 500, 1, 1);
        due.is("100 keys", x.size(full), 100);
        edges.refused("101 keys", x, -2, y -> y.put(full, 501, 1, 1));
    }

    // PROMISES 6, 7 AND 8

    private interface OfTwo {
        int of(OrderedMaps x, int a, int b);
    }

    private static void unknownOfTwo(OfTwo act) {
        edges.unknown((y, map) -> act.of(y, map, 1), NO_MAPS);
        edges.unknown((y, map) -> act.of(y, 1, map), NO_MAPS);
        edges.unknown((y, map) -> act.of(y, map, map), NO_MAPS);
    }

    private static void notAlike(OfTwo act) {
        OrderedMaps x = new OrderedMaps();
        int[] kinds = {Edges.mapOf(x, false, false, 1), Edges.mapOf(x, false, true, 1),
            Edges.mapOf(x, true, false, 1), Edges.mapOf(x, true, true, 1)};
        for (int i = 0; i < 4; i++) {
            for (int j = 0; j < 4; j++) {
                int a = kinds[i];
                int b = kinds[j];
                if (a == b) {
                    int next = x.told(0);
                    due.is("alike", act.of(x, a, b), next);
                } else {
                    due.is("not alike " + i + " and " + j, act.of(x, a, b), -3);
                }
            }
        }
        edges.refused("not alike, one is empty", x, -3, y -> act.of(y, 0, kinds[1]));
        edges.refused("not alike, one is empty", x, -3, y -> act.of(y, kinds[2], 0));
        due.is("things", x.told(0), 12);
    }

    private static void notAlikeWith300Things(OfTwo act) {
        OrderedMaps x = new OrderedMaps();
        x.map(false, false);
        x.map(true, false);
        x.map(false, true);
        Edges.fill(x, 300);
        edges.refused("another order", x, -3, y -> act.of(y, 0, 1));
        edges.refused("another strictness", x, -3, y -> act.of(y, 0, 2));
        edges.refused("alike", x, -4, y -> act.of(y, 0, 0));
        edges.refused("a row", x, -1, y -> act.of(y, 0, 3));
        edges.refused("a row", x, -1, y -> act.of(y, 3, 0));
        edges.refused("300", x, -1, y -> act.of(y, 0, 300));
    }

    private static void lastThingOfTwo(OfTwo act) {
        OrderedMaps x = new OrderedMaps();
        Edges.mapOf(x, false, false, 1);
        edges.lastThing(x, y -> act.of(y, 0, 1));
    }

    @Edge(promise = 6, says = "-1")
    static void unionOfNoMaps() {
        unknownOfTwo((x, a, b) -> x.union(a, b));
    }

    @Edge(promise = 6, says = "-3 they are not alike (ORDER, STRICT)")
    static void unionOfMapsThatAreNotAlike() {
        notAlike((x, a, b) -> x.union(a, b));
    }

    @Edge(promise = 6, says = "-1; -3 they are not alike (ORDER, STRICT); -4")
    static void unionIsMinus1ThenMinus3AheadOfMinus4() {
        notAlikeWith300Things((x, a, b) -> x.union(a, b));
    }

    @Edge(promise = 6, says = "-3 they are not alike (ORDER, STRICT); -4; -2")
    static void unionIsMinus3AheadOfMinus2() {
        OrderedMaps x = new OrderedMaps();
        int strict = Edges.mapOfMany(x, true, 0, 60);
        int lazy = Edges.mapOfMany(x, false, 60, 41);
        edges.refused("union", x, -3, y -> y.union(strict, lazy));
    }

    @Edge(promise = 6, says = "-4")
    static void unionOfThing301() {
        lastThingOfTwo((x, a, b) -> x.union(a, b));
    }

    @Edge(promise = 6, says = "-4; -2")
    static void unionIsMinus4AheadOfMinus2() {
        OrderedMaps x = new OrderedMaps();
        int a = Edges.mapOfMany(x, false, 0, 60);
        int b = Edges.mapOfMany(x, false, 60, 41);
        edges.refused("with room for things", x, -2, y -> y.union(a, b));
        Edges.fill(x, 300);
        edges.refused("with 300 things", x, -4, y -> y.union(a, b));
    }

    @Edge(promise = 6, says = "-2")
    static void unionOf101Keys() {
        OrderedMaps x = new OrderedMaps();
        int a = Edges.mapOfMany(x, false, 0, 60);
        int b = Edges.mapOfMany(x, false, 60, 41);
        edges.refused("a and b", x, -2, y -> y.union(a, b));
        edges.refused("b and a", x, -2, y -> y.union(b, a));
        int fewer = x.drop(b, 100);
        due.is("100 keys", x.size(x.union(a, fewer)), 100);
        due.is("100 keys", x.size(x.union(fewer, a)), 100);
    }

    @Edge(promise = 6, says = "-2")
    static void unionOf101KeysWhereSomeAreInBoth() {
        OrderedMaps x = new OrderedMaps();
        int a = Edges.mapOfMany(x, false, 0, 60);
        int b = Edges.mapOfMany(x, false, 59, 42);
        edges.refused("101 keys", x, -2, y -> y.union(a, b));
        due.is("100 keys", x.size(x.union(a, x.drop(b, 80))), 100);
    }

    @Edge(promise = 6, says = "-2")
    static void unionOf100KeysWithThemselves() {
        OrderedMaps x = new OrderedMaps();
        int map = Edges.mapOfMany(x, false, 0, 100);
        int all = x.union(map, map);
        due.is("100 keys", x.size(all), 100);
        due.is("sound", x.sound(all), true);
        due.is("with the empty one", x.size(x.union(map, 0)), 100);
        due.is("of the empty one", x.size(x.union(0, map)), 100);
    }

    @Edge(promise = 6, says = "A MAP with the KEYS of two")
    static void unionOfEmptyMaps() {
        OrderedMaps x = new OrderedMaps();
        int map = Edges.mapOf(x, false, false, 1, 2);
        edges.keysAre(x, x.union(0, 0));
        edges.keysAre(x, x.union(0, map), 1, 2);
        edges.keysAre(x, x.union(map, 0), 1, 2);
    }

    @Edge(promise = 6, says = "A MAP with the KEYS of two")
    static void unionAtTheEndsOfBothOrders() {
        OrderedMaps x = new OrderedMaps();
        int a = Edges.mapOf(x, false, false, LEAST, 0);
        int b = Edges.mapOf(x, false, false, -1, MOST);
        edges.keysAre(x, x.union(a, b), LEAST, -1, 0, MOST);
        int c = Edges.mapOf(x, true, false, LEAST, 0);
        int d = Edges.mapOf(x, true, false, -1, MOST);
        edges.keysAre(x, x.union(c, d), 0, MOST, LEAST, -1);
    }

    @Edge(promise = 6, says = "the VALUES of a where both have one")
    static void unionHasTheValuesOfA() {
        OrderedMaps x = new OrderedMaps();
        int a = x.put(x.put(x.map(false, false), 1, 8, 0), 2, 20, 1);
        int b = x.put(x.put(x.map(false, false), 1, 10, 1), 2, 8, 0);
        int ab = x.union(a, b);
        int ba = x.union(b, a);
        due.is("nothing was needed", x.worked(), 0);
        edges.thrown("a's failing one", x, ArithmeticException.class, 1, y -> y.get(ab, 1));
        due.is("a's other one", x.get(ab, 2), 20);
        due.is("b's one", x.get(ba, 1), 10);
        edges.thrown("b's failing one", x, ArithmeticException.class, 1, y -> y.get(ba, 2));
    }

    @Edge(promise = 7, says = "-1")
    static void bothOfNoMaps() {
        unknownOfTwo((x, a, b) -> x.both(a, b));
    }

    @Edge(promise = 7, says = "-3 as of union()")
    static void bothOfMapsThatAreNotAlike() {
        notAlike((x, a, b) -> x.both(a, b));
    }

    @Edge(promise = 7, says = "-1; -3 as of union(); -4")
    static void bothIsMinus1ThenMinus3AheadOfMinus4() {
        notAlikeWith300Things((x, a, b) -> x.both(a, b));
    }

    @Edge(promise = 7, says = "-4")
    static void bothOfThing301() {
        lastThingOfTwo((x, a, b) -> x.both(a, b));
    }

    @Edge(promise = 7, says = "A MAP with the KEYS that both have")
    static void bothOfEmptyMapsAndOfMapsWithNoKeyInCommon() {
        OrderedMaps x = new OrderedMaps();
        int map = Edges.mapOf(x, false, false, 1, 3);
        edges.keysAre(x, x.both(0, 0));
        edges.keysAre(x, x.both(0, map));
        edges.keysAre(x, x.both(map, 0));
        edges.keysAre(x, x.both(map, Edges.mapOf(x, false, false, 0, 2, 4)));
        edges.keysAre(x, x.both(map, map), 1, 3);
    }

    @Edge(promise = 7, says = "A MAP with the KEYS that both have")
    static void bothOf100KeysEachMakesUpTo100() {
        OrderedMaps x = new OrderedMaps();
        int a = Edges.mapOfMany(x, false, 0, 100);
        int b = Edges.mapOfMany(x, false, 50, 100);
        due.is("with itself", x.size(x.both(a, a)), 100);
        due.is("with another", x.size(x.both(a, b)), 50);
        due.is("the first of them", x.key(x.both(a, b), 0), 50);
    }

    @Edge(promise = 7, says = "and the VALUES of a")
    static void bothHasTheValuesOfA() {
        OrderedMaps x = new OrderedMaps();
        int a = x.put(x.map(true, false), -1, 8, 0);
        int b = x.put(x.map(true, false), -1, 10, 1);
        int ab = x.both(a, b);
        int ba = x.both(b, a);
        edges.thrown("a's", x, ArithmeticException.class, 1, y -> y.get(ab, -1));
        due.is("b's", x.get(ba, -1), 10);
    }

    @Edge(promise = 8, says = "-1")
    static void lessOfNoMaps() {
        unknownOfTwo((x, a, b) -> x.less(a, b));
    }

    @Edge(promise = 8, says = "-3 as of union()")
    static void lessOfMapsThatAreNotAlike() {
        notAlike((x, a, b) -> x.less(a, b));
    }

    @Edge(promise = 8, says = "-1; -3 as of union(); -4")
    static void lessIsMinus1ThenMinus3AheadOfMinus4() {
        notAlikeWith300Things((x, a, b) -> x.less(a, b));
    }

    @Edge(promise = 8, says = "-4")
    static void lessOfThing301() {
        lastThingOfTwo((x, a, b) -> x.less(a, b));
    }

    @Edge(promise = 8, says = "A MAP with the KEYS of a that b has not")
    static void lessOfEmptyMapsAndOfItself() {
        OrderedMaps x = new OrderedMaps();
        int map = Edges.mapOf(x, false, false, LEAST, 3, MOST);
        edges.keysAre(x, x.less(0, 0));
        edges.keysAre(x, x.less(0, map));
        edges.keysAre(x, x.less(map, 0), LEAST, 3, MOST);
        edges.keysAre(x, x.less(map, map));
        edges.keysAre(x, x.less(map, Edges.mapOf(x, false, false, 0, 2, 4)), LEAST, 3, MOST);
    }

    @Edge(promise = 8, says = "A MAP with the KEYS of a that b has not")
    static void lessOf100Keys() {
        OrderedMaps x = new OrderedMaps();
        int a = Edges.mapOfMany(x, false, 0, 100);
        int b = Edges.mapOfMany(x, false, 1, 98);
        edges.keysAre(x, x.less(a, b), 0, 99);
        edges.keysAre(x, x.less(b, a));
        due.is("less nothing", x.size(x.less(a, 0)), 100);
    }

    // PROMISE 9

    @Edge(promise = 9, says = "-1")
    static void partOfNoMap() {
        edges.unknown((y, map) -> y.part(map, 7, 0), NO_MAPS);
        edges.unknown((y, map) -> y.part(map, 7, 1), NO_MAPS);
    }

    @Edge(promise = 9, says = "-1; -2 side")
    static void partIsMinus1AheadOfMinus2() {
        edges.unknown((y, map) -> y.part(map, 7, 2), NO_MAPS);
    }

    @Edge(promise = 9, says = "-2 side")
    static void partOfNoSide() {
        OrderedMaps x = new OrderedMaps();
        int map = Edges.mapOf(x, false, false, 1, 2);
        for (int side : NO_SIDES) {
            edges.refused("side " + side, x, -2, y -> y.part(map, 1, side));
            edges.refused("side " + side + " of the empty map", x, -2, y -> y.part(0, 1, side));
        }
    }

    @Edge(promise = 9, says = "-2 side; -4")
    static void partIsMinus1ThenMinus2AheadOfMinus4() {
        OrderedMaps x = fullWithAMap(false, false);
        for (int side : NO_SIDES) {
            edges.refused("side " + side, x, -2, y -> y.part(0, 1, side));
        }
        edges.refused("of a row", x, -1, y -> y.part(1, 1, 0));
        edges.refused("of 300", x, -1, y -> y.part(300, 1, 1));
    }

    @Edge(promise = 9, says = "-4")
    static void partOfThing301() {
        for (int side = 0; side < 2; side++) {
            OrderedMaps x = new OrderedMaps();
            int map = Edges.mapOf(x, false, false, 1, 2);
            int each = side;
            edges.lastThing(x, y -> y.part(map, 1, each));
        }
    }

    @Edge(promise = 9, says = "before one, by the ORDER (side = 0), behind it (1)")
    static void theKeyItselfIsOnNoSide() {
        OrderedMaps x = new OrderedMaps();
        int map = Edges.mapOf(x, false, false, 1, 2, 3);
        edges.keysAre(x, x.part(map, 2, 0), 1);
        edges.keysAre(x, x.part(map, 2, 1), 3);
    }

    @Edge(promise = 9, says = "before one, by the ORDER (side = 0), behind it (1)")
    static void partAtAKeyThatIsNotThere() {
        OrderedMaps x = new OrderedMaps();
        int map = Edges.mapOf(x, false, false, 1, 3);
        edges.keysAre(x, x.part(map, 2, 0), 1);
        edges.keysAre(x, x.part(map, 2, 1), 3);
    }

    @Edge(promise = 9, says = "before one, by the ORDER (side = 0), behind it (1)")
    static void partAtTheEndsOfTheSignedOrder() {
        OrderedMaps x = new OrderedMaps();
        int map = Edges.mapOf(x, false, false, LEAST, -1, 0, MOST);
        edges.keysAre(x, x.part(map, LEAST, 0));
        edges.keysAre(x, x.part(map, LEAST, 1), -1, 0, MOST);
        edges.keysAre(x, x.part(map, MOST, 0), LEAST, -1, 0);
        edges.keysAre(x, x.part(map, MOST, 1));
        edges.keysAre(x, x.part(map, 0, 0), LEAST, -1);
        edges.keysAre(x, x.part(map, -1, 1), 0, MOST);
    }

    @Edge(promise = 9, says = "before one, by the ORDER (side = 0), behind it (1)")
    static void partAtTheEndsOfTheOrderByBits() {
        OrderedMaps x = new OrderedMaps();
        int map = Edges.mapOf(x, true, false, LEAST, -1, 0, MOST);
        edges.keysAre(x, x.part(map, 0, 0));
        edges.keysAre(x, x.part(map, 0, 1), MOST, LEAST, -1);
        edges.keysAre(x, x.part(map, -1, 0), 0, MOST, LEAST);
        edges.keysAre(x, x.part(map, -1, 1));
        edges.keysAre(x, x.part(map, LEAST, 0), 0, MOST);
        edges.keysAre(x, x.part(map, MOST, 1), LEAST, -1);
    }

    @Edge(promise = 9, says = "A MAP with the KEYS")
    static void partOfAnEmptyMap() {
        OrderedMaps x = new OrderedMaps();
        x.map(false, false);
        edges.keysAre(x, x.part(0, 0, 0));
        edges.keysAre(x, x.part(0, 0, 1));
    }

    @Edge(promise = 9, says = "A MAP with the KEYS")
    static void partOf100KeysMayHaveAllOfThem() {
        OrderedMaps x = new OrderedMaps();
        int map = Edges.mapOfMany(x, false, 0, 100);
        due.is("before 100", x.size(x.part(map, 100, 0)), 100);
        due.is("behind -1", x.size(x.part(map, -1, 1)), 100);
        due.is("before 99", x.size(x.part(map, 99, 0)), 99);
        due.is("behind 0", x.size(x.part(map, 0, 1)), 99);
    }

    // PROMISE 10

    @Edge(promise = 10, says = "-1")
    static void keptOfNoMap() {
        edges.unknown((y, map) -> y.kept(map, 1, 0), NO_MAPS);
    }

    @Edge(promise = 10, says = "-1; -2 m is below 1")
    static void keptIsMinus1AheadOfMinus2() {
        edges.unknown((y, map) -> y.kept(map, 0, 0), NO_MAPS);
    }

    @Edge(promise = 10, says = "-2 m is below 1")
    static void keptOfMBelow1() {
        OrderedMaps x = new OrderedMaps();
        int map = Edges.mapOf(x, false, false, 0, 1, 2);
        for (long m : new long[] {0, -1, -3, LEAST}) {
            edges.refused("m " + m, x, -2, y -> y.kept(map, m, 0));
            edges.refused("m " + m + " of the empty map", x, -2, y -> y.kept(0, m, 0));
        }
        edges.keysAre(x, x.kept(map, 1, 0), 0, 1, 2);
    }

    @Edge(promise = 10, says = "-2 m is below 1; -4")
    static void keptIsMinus1ThenMinus2AheadOfMinus4() {
        OrderedMaps x = fullWithAMap(false, false);
        edges.refused("m 0", x, -2, y -> y.kept(0, 0, 0));
        edges.refused("the least m", x, -2, y -> y.kept(0, LEAST, 0));
        edges.refused("of a row", x, -1, y -> y.kept(1, 0, 0));
    }

    @Edge(promise = 10, says = "-4")
    static void keptOfThing301() {
        OrderedMaps x = new OrderedMaps();
        int map = Edges.mapOf(x, false, false, 1, 2);
        edges.lastThing(x, y -> y.kept(map, 2, 1));
    }

    @Edge(promise = 10, says = "r from 0 to m - 1 for each KEY")
    static void keysBelow0LeaveNoLessThan0() {
        OrderedMaps x = new OrderedMaps();
        int map = Edges.mapOf(x, false, false, -4, -3, -2, -1, 0, 1, 2, 3);
        edges.keysAre(x, x.kept(map, 3, 0), -3, 0, 3);
        edges.keysAre(x, x.kept(map, 3, 1), -2, 1);
        edges.keysAre(x, x.kept(map, 3, 2), -4, -1, 2);
    }

    @Edge(promise = 10, says = "r from 0 to m - 1 for each KEY")
    static void anROutsideOf0ToMMinus1FitsNoKey() {
        OrderedMaps x = new OrderedMaps();
        int map = Edges.mapOf(x, false, false, -4, -3, -2, -1, 0, 1, 2, 3);
        for (long r : new long[] {-1, -2, 3, 4, LEAST, MOST}) {
            edges.keysAre(x, x.kept(map, 3, r));
        }
        edges.keysAre(x, x.kept(map, 1, 1));
    }

    @Edge(promise = 10, says = "r from 0 to m - 1 for each KEY")
    static void theEndsOfTheLongsAsKeysAndAsM() {
        OrderedMaps x = new OrderedMaps();
        int map = Edges.mapOf(x, false, false, LEAST, LEAST + 1, -1, 0, MOST - 1, MOST);
        edges.keysAre(x, x.kept(map, MOST, 0), LEAST + 1, 0, MOST);
        edges.keysAre(x, x.kept(map, MOST, MOST - 1), LEAST, -1, MOST - 1);
        edges.keysAre(x, x.kept(map, 2, 0), LEAST, 0, MOST - 1);
        edges.keysAre(x, x.kept(map, 2, 1), LEAST + 1, -1, MOST);
        edges.keysAre(x, x.kept(map, 1, 0), LEAST, LEAST + 1, -1, 0, MOST - 1, MOST);
    }

    @Edge(promise = 10, says = "r from 0 to m - 1 for each KEY")
    static void keysByBitsAreDividedAsLongsToo() {
        OrderedMaps x = new OrderedMaps();
        int map = Edges.mapOf(x, true, false, LEAST, -1, 0, 2, MOST);
        edges.keysAre(x, x.kept(map, 3, 2), 2, -1);
        edges.keysAre(x, x.kept(map, 3, 1), MOST, LEAST);
        edges.keysAre(x, x.kept(map, 3, 0), 0);
    }

    @Edge(promise = 10, says = "A MAP with the KEYS")
    static void keptOfAnEmptyMap() {
        OrderedMaps x = new OrderedMaps();
        x.map(false, false);
        edges.keysAre(x, x.kept(0, 1, 0));
    }

    // PROMISE 11

    @Edge(promise = 11, says = "false of an unknown one")
    static void hasOfNoMap() {
        edges.unknown((y, map) -> y.has(map, 7) ? 1 : -1, NO_MAPS);
    }

    @Edge(promise = 11, says = "Whether a MAP has a KEY")
    static void hasAtTheEndsOfBothOrders() {
        OrderedMaps x = new OrderedMaps();
        for (boolean bits : new boolean[] {false, true}) {
            int map = Edges.mapOf(x, bits, false, LEAST, -1, 0, MOST);
            for (long key : new long[] {LEAST, -1, 0, MOST}) {
                due.is("has " + key, x.has(map, key), true);
            }
            for (long key : new long[] {LEAST + 1, -2, 1, MOST - 1}) {
                due.is("has " + key, x.has(map, key), false);
            }
        }
        due.is("the empty map", x.has(0, 0), false);
    }

    @Edge(promise = 11, says = "Whether a MAP has a KEY")
    static void hasOfAFailingValueIsTrueAndNeedsNothing() {
        OrderedMaps x = new OrderedMaps();
        due.is("has", x.has(x.put(x.map(false, false), 1, 8, 0), 1), true);
        due.is("worked", x.worked(), 0);
    }

    // PROMISE 12

    @Edge(promise = 12, says = "IllegalArgumentException: no such MAP")
    static void getOfNoMap() {
        edges.unknownThrows((y, map) -> y.get(map, 7), NO_MAPS);
    }

    @Edge(promise = 12, says = "NoSuchElementException: it has not the KEY")
    static void getOfAKeyThatIsNotThere() {
        for (boolean bits : new boolean[] {false, true}) {
            OrderedMaps x = new OrderedMaps();
            int map = Edges.mapOf(x, bits, false, 1, 3, -3);
            for (long key : new long[] {0, 2, 4, -1, -2, -4, LEAST, MOST}) {
                edges.thrown("key " + key, x, NoSuchElementException.class, 0, y -> y.get(map, key));
            }
            edges.thrown("the empty map", x, NoSuchElementException.class, 0, y -> y.get(0, 1));
        }
    }

    @Edge(promise = 12, says = "ArithmeticException: it FAILS")
    static void getOfAFailingValueAloneFails() {
        OrderedMaps x = new OrderedMaps();
        int map = x.put(Edges.mapOf(x, false, false, 1, 3), 2, 8, 0);
        due.is("the one before", x.get(map, 1), 1);
        edges.thrown("get", x, ArithmeticException.class, 1, y -> y.get(map, 2));
        due.is("the one behind", x.get(map, 3), 3);
        due.is("worked", x.worked(), 3);
    }

    @Edge(promise = 12, says = "The VALUE of a KEY")
    static void getAtTheEndsOfBothOrders() {
        OrderedMaps x = new OrderedMaps();
        for (boolean bits : new boolean[] {false, true}) {
            int map = Edges.mapOf(x, bits, false, LEAST, -1, 0, MOST);
            for (long key : new long[] {LEAST, -1, 0, MOST}) {
                due.is("get " + key, x.get(map, key), key);
            }
        }
    }

    // PROMISE 13

    @Edge(promise = 13, says = "IllegalArgumentException: no such MAP")
    static void keyOfNoMap() {
        edges.unknownThrows((y, map) -> y.key(map, 0), NO_MAPS);
    }

    @Edge(promise = 13, says = "IllegalArgumentException: no such MAP; IndexOutOfBoundsException")
    static void keyOfNoMapComesAheadOfThePlace() {
        edges.unknownThrows((y, map) -> y.key(map, -1), NO_MAPS);
    }

    @Edge(promise = 13, says = "IndexOutOfBoundsException")
    static void keyAtNoPlace() {
        OrderedMaps x = new OrderedMaps();
        int map = Edges.mapOf(x, false, false, 1, 2);
        for (int place : new int[] {-1, 2, 3, Integer.MIN_VALUE, Integer.MAX_VALUE}) {
            edges.thrown("place " + place, x, IndexOutOfBoundsException.class, 0, y -> y.key(map, place));
        }
    }

    @Edge(promise = 13, says = "IndexOutOfBoundsException")
    static void keyOfAnEmptyMap() {
        OrderedMaps x = new OrderedMaps();
        x.map(false, false);
        for (int place : new int[] {-1, 0, 1}) {
            edges.thrown("place " + place, x, IndexOutOfBoundsException.class, 0, y -> y.key(0, place));
        }
    }

    @Edge(promise = 13, says = "The KEY at a place of the ORDER (0 the first)")
    static void keyAtTheFirstAndTheLastOf100Places() {
        OrderedMaps x = new OrderedMaps();
        int map = Edges.mapOfMany(x, false, -50, 100);
        due.is("the first", x.key(map, 0), -50);
        due.is("the last", x.key(map, 99), 49);
        edges.thrown("place 100", x, IndexOutOfBoundsException.class, 0, y -> y.key(map, 100));
    }

    // PROMISE 14

    @Edge(promise = 14, says = "-1")
    static void rankOfNoMap() {
        edges.unknown((y, map) -> y.rank(map, 7), NO_MAPS);
    }

    @Edge(promise = 14, says = "How many KEYS are before one, by the ORDER")
    static void rankOfAKeyDoesNotCountItself() {
        OrderedMaps x = new OrderedMaps();
        int map = Edges.mapOf(x, false, false, 1, 3);
        long[] keys = {0, 1, 2, 3, 4};
        int[] ranks = {0, 0, 1, 1, 2};
        for (int i = 0; i < keys.length; i++) {
            due.is("rank of " + keys[i], x.rank(map, keys[i]), ranks[i]);
        }
    }

    @Edge(promise = 14, says = "How many KEYS are before one, by the ORDER")
    static void rankAtTheEndsOfBothOrders() {
        OrderedMaps x = new OrderedMaps();
        int signed = Edges.mapOf(x, false, false, LEAST, -1, 0, MOST);
        int bits = Edges.mapOf(x, true, false, LEAST, -1, 0, MOST);
        long[] keys = {LEAST, LEAST + 1, -1, 0, 1, MOST};
        int[] bySign = {0, 1, 1, 2, 3, 3};
        int[] byBits = {2, 3, 3, 0, 1, 1};
        for (int i = 0; i < keys.length; i++) {
            due.is("signed rank of " + keys[i], x.rank(signed, keys[i]), bySign[i]);
            due.is("rank by bits of " + keys[i], x.rank(bits, keys[i]), byBits[i]);
        }
    }

    @Edge(promise = 14, says = "How many KEYS are before one, by the ORDER")
    static void rankInEmptyAndInFullMaps() {
        OrderedMaps x = new OrderedMaps();
        int map = Edges.mapOfMany(x, false, 0, 100);
        due.is("behind 100 keys", x.rank(map, MOST), 100);
        due.is("before 100 keys", x.rank(map, LEAST), 0);
        due.is("in the empty map", x.rank(0, MOST), 0);
    }

    // PROMISE 15

    @Edge(promise = 15, says = "IllegalArgumentException: no such MAP")
    static void foldOfNoMap() {
        edges.unknownThrows((y, map) -> y.fold(map, LEAST, MOST), NO_MAPS);
        edges.unknownThrows((y, map) -> y.fold(map, 1, 0), NO_MAPS);
    }

    @Edge(promise = 15, says = "The sum (in 64 bits)")
    static void foldWrapsAround() {
        OrderedMaps x = new OrderedMaps();
        int most = x.put(x.put(x.map(false, false), 1, MOST, 1), 2, 1, 1);
        due.is("beyond the most", x.fold(most, 1, 2), LEAST);
        int least = x.put(x.put(x.map(false, false), 1, LEAST, 1), 2, -1, 1);
        due.is("below the least", x.fold(least, 1, 2), MOST);
        int twice = x.put(x.put(x.map(false, false), 1, LEAST, -1), 2, LEAST, 1);
        due.is("the least twice", x.fold(twice, 1, 2), 0);
        int back = x.put(most, 3, -1, 1);
        due.is("there and back", x.fold(back, 1, 3), MOST);
    }

    @Edge(promise = 15, says = "not before one, and not behind another one")
    static void foldTakesBothEnds() {
        OrderedMaps x = new OrderedMaps();
        int map = Edges.mapOf(x, false, false, 1, 10, 100);
        due.is("one key", x.fold(map, 10, 10), 10);
        due.is("worked", x.worked(), 1);
        due.is("all keys", x.fold(map, 1, 100), 111);
        due.is("worked", x.worked(), 3);
        due.is("between the ends", x.fold(map, 2, 99), 10);
        due.is("none between", x.fold(map, 11, 99), 0);
        due.is("none behind", x.fold(map, 101, MOST), 0);
        due.is("none before", x.fold(map, LEAST, 0), 0);
    }

    @Edge(promise = 15, says = "not before one, and not behind another one")
    static void foldOfTheWrongWayIs0AndNeedsNothing() {
        OrderedMaps x = new OrderedMaps();
        int map = x.put(Edges.mapOf(x, false, false, 1, 10, 100), 5, 8, 0);
        due.is("from 100 to 1", x.fold(map, 100, 1), 0);
        due.is("from 10 to 9", x.fold(map, 10, 9), 0);
        due.is("from the most to the least", x.fold(map, MOST, LEAST), 0);
        int bits = x.put(x.put(x.map(true, false), -1, 8, 0), 1, 8, 0);
        due.is("by bits from -1 to 1", x.fold(bits, -1, 1), 0);
        due.is("worked", x.worked(), 0);
    }

    @Edge(promise = 15, says = "not before one, and not behind another one")
    static void foldAtTheEndsOfBothOrders() {
        OrderedMaps x = new OrderedMaps();
        int signed = x.put(x.put(x.put(x.map(false, false), LEAST, 1, 1), MOST, 2, 1), 0, 4, 1);
        due.is("all", x.fold(signed, LEAST, MOST), 7);
        due.is("but the least", x.fold(signed, LEAST + 1, MOST), 6);
        due.is("but the most", x.fold(signed, LEAST, MOST - 1), 5);
        int bits = x.put(x.put(x.put(x.put(x.map(true, false), -1, 1, 1), 0, 2, 1), MOST, 4, 1), LEAST, 8, 1);
        due.is("all by bits", x.fold(bits, 0, -1), 15);
        due.is("but 0", x.fold(bits, 1, -1), 13);
        due.is("but -1", x.fold(bits, 0, -2), 14);
        due.is("from the most to the least long", x.fold(bits, MOST, LEAST), 12);
        due.is("from the least long to the most", x.fold(bits, LEAST, MOST), 0);
    }

    @Edge(promise = 15, says = "The sum")
    static void foldOfAnEmptyMapIs0() {
        OrderedMaps x = new OrderedMaps();
        x.map(false, false);
        due.is("fold", x.fold(0, LEAST, MOST), 0);
        due.is("worked", x.worked(), 0);
    }

    @Edge(promise = 15, says = "those behind it are not needed then")
    static void foldStopsAtTheOneThatFails() {
        OrderedMaps x = new OrderedMaps();
        int map = x.put(Edges.mapOf(x, false, false, 4, 3, 1), 2, 8, 0);
        edges.thrown("fold", x, ArithmeticException.class, 2, y -> y.fold(map, 1, 4));
        due.is("1 is known", x.get(map, 1), 1);
        due.is("worked", x.worked(), 2);
        due.is("3 and 4 are not", x.fold(map, 3, 4), 7);
        due.is("worked", x.worked(), 4);
        edges.thrown("fold again", x, ArithmeticException.class, 1, y -> y.fold(map, 1, 4));
    }

    @Edge(promise = 15, says = "those behind it are not needed then")
    static void foldOfSeveralThatFailWorksTheFirstAlone() {
        OrderedMaps x = new OrderedMaps();
        int map = x.put(x.put(x.put(x.map(false, false), 1, 8, 0), 2, 8, 0), 3, 8, 0);
        edges.thrown("fold", x, ArithmeticException.class, 1, y -> y.fold(map, 1, 3));
        edges.thrown("fold", x, ArithmeticException.class, 1, y -> y.fold(map, 2, 3));
    }

    @Edge(promise = 15, says = "they are needed by the ORDER")
    static void foldByBitsNeedsKeysBelow0Last() {
        OrderedMaps x = new OrderedMaps();
        int bits = x.put(Edges.mapOf(x, true, false, 1, 2), -1, 8, 0);
        edges.thrown("by bits", x, ArithmeticException.class, 3, y -> y.fold(bits, 0, -1));
        int signed = x.put(Edges.mapOf(x, false, false, 1, 2), -1, 8, 0);
        edges.thrown("signed", x, ArithmeticException.class, 1, y -> y.fold(signed, -1, 2));
    }

    @Edge(promise = 15, says = "ArithmeticException: one FAILS")
    static void foldOutsideOfTheOneThatFailsIsTheSum() {
        OrderedMaps x = new OrderedMaps();
        int map = x.put(Edges.mapOf(x, false, false, 1, 3), 2, 8, 0);
        due.is("before it", x.fold(map, LEAST, 1), 1);
        due.is("behind it", x.fold(map, 3, MOST), 3);
        due.is("worked", x.worked(), 2);
        edges.thrown("it alone", x, ArithmeticException.class, 1, y -> y.fold(map, 2, 2));
    }
}
