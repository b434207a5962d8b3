import java.util.ArrayList;
import java.util.Arrays;
import java.util.List;

/** The document's sentences that say what a call does with ordinary things, beside the boundary cases. */
public final class SentencesTest {
    private static final long LEAST = Edges.LEAST;
    private static final long MOST = Edges.MOST;
    /** Things of someThings() with three parts each. */
    private static final int MAP = 3;
    private static final int ROW = 7;
    private static final int HEAP = 11;
    private static final Edges edges = new Edges();
    private static final Due due = edges.due;

    public static void main(String[] args) throws ReflectiveOperationException {
        edges.runAll(SentencesTest.class);
    }

    /** Maps with none, one, two and all of the keys 4, -1 and 9 (0 to 3), so rows (4 to 7) and heaps (8 to 11). */
    private static OrderedMaps someThings() {
        OrderedMaps x = new OrderedMaps();
        int lazy = Edges.mapOf(x, false, false, 4, -1, 9);
        int row = Edges.rowOf(x, 3, 1, 2);
        int heap = Edges.heapOf(x, 3, 1, 2);
        due.is("the map", lazy, MAP);
        due.is("the row", row, ROW);
        due.is("the heap", heap, HEAP);
        return x;
    }

    /** Every act on someThings(): those that make a map (0 to 10), a row (11 to 18) and a heap. */
    private static List<Edges.Call> acts() {
        return new ArrayList<>(Arrays.<Edges.Call>asList(
                x -> x.map(false, false), x -> x.put(MAP, 5, 1, 1), x -> x.put(MAP, 4, 1, 0), x -> x.drop(MAP, 4),
                x -> x.union(MAP, 1), x -> x.union(1, MAP), x -> x.both(MAP, 1), x -> x.less(MAP, 1),
                x -> x.part(MAP, 4, 0), x -> x.part(MAP, 4, 1), x -> x.kept(MAP, 2, 1),
                x -> x.row(), x -> x.add(ROW, true, 5), x -> x.add(ROW, false, 5), x -> x.join(ROW, 6),
                x -> x.cut(ROW, 1, 0), x -> x.cut(ROW, 1, 1), x -> x.replace(ROW, 1, 5), x -> x.turned(ROW),
                x -> x.heap(), x -> x.push(HEAP, 0), x -> x.push(HEAP, 5), x -> x.meld(HEAP, 9), x -> x.pop(HEAP)));
    }

    private static boolean isMap(OrderedMaps x, int thing) {
        return x.rank(thing, 0) >= 0;
    }

    private static boolean isRow(OrderedMaps x, int thing) {
        return x.find(thing, 0, 0) != -1;
    }

    private static boolean isHeap(OrderedMaps x, int thing) {
        return !isMap(x, thing) && !isRow(x, thing) && x.size(thing) >= 0;
    }

    /** All that can be asked of the things 0 to 11 without a need of a value that fails. */
    private static String looks(OrderedMaps x) {
        StringBuilder told = new StringBuilder();
        for (int thing = 0; thing <= HEAP; thing++) {
            told.append(thing).append(':').append(x.size(thing));
            for (int place = 0; place < x.size(thing); place++) {
                if (thing <= MAP) {
                    long key = x.key(thing, place);
                    told.append(' ').append(key).append('=').append(x.get(thing, key));
                } else if (thing <= ROW) {
                    told.append(' ').append(x.at(thing, place));
                }
            }
            told.append(thing > ROW && x.size(thing) > 0 ? " " + x.least(thing) : "").append('\n');
        }
        return told.toString();
    }

    // WHAT IT IS

    @Edge(promise = 0, says = "Things that never change")
    static void noActChangesWhatAnyOldThingAnswers() {
        String before = looks(someThings());
        for (int i = 0; i < acts().size(); i++) {
            OrderedMaps x = someThings();
            acts().get(i).of(x);
            due.is("as before, behind act " + i, looks(x).equals(before), true);
        }
    }

    @Edge(promise = 0, says = "each act makes a new thing")
    static void eachActMakesOneThing() {
        for (int i = 0; i < acts().size(); i++) {
            OrderedMaps x = someThings();
            due.is("number of act " + i, acts().get(i).of(x), HEAP + 1);
            due.is("things behind act " + i, x.told(0), HEAP + 2);
            due.is("the new thing is sound", x.sound(HEAP + 1), true);
        }
    }

    @Edge(promise = 0, says = "each act makes a new thing")
    static void anActThatChangesNothingMakesANewThingToo() {
        OrderedMaps x = someThings();
        int[] maps = {x.put(MAP, 4, 4, 1), x.union(MAP, MAP), x.union(MAP, 0), x.both(MAP, MAP), x.less(MAP, 0),
            x.part(MAP, LEAST, 1), x.part(MAP, MOST, 0), x.kept(MAP, 1, 0)};
        int[] rows = {x.join(ROW, 4), x.join(4, ROW), x.cut(ROW, 3, 0), x.cut(ROW, 0, 1), x.replace(ROW, 0, 3)};
        int[] heaps = {x.meld(HEAP, 8), x.meld(8, HEAP)};
        int number = HEAP;
        for (int[] made : new int[][] {maps, rows, heaps}) {
            for (int each : made) {
                number++;
                due.is("the next number", each, number);
                due.is("it is what the old one is", x.same(each, made == maps ? MAP : made == rows ? ROW : HEAP), 1);
            }
        }
    }

    @Edge(promise = 0, says = "maps in two orders whose values are worked at once or by need")
    static void theFourKindsOfMap() {
        for (int kind = 0; kind < 4; kind++) {
            boolean bits = kind % 2 == 1;
            boolean strict = kind > 1;
            OrderedMaps x = new OrderedMaps();
            int map = Edges.mapOf(x, bits, strict, 1, -1);
            due.is("worked at once", x.worked(), strict ? 2 : 0);
            edges.keysAre(x, map, bits ? 1 : -1, bits ? -1 : 1);
            due.is("the sum", x.fold(map, bits ? 0 : LEAST, bits ? -1 : MOST), 0);
            due.is("worked by need", x.worked(), 2);
        }
    }

    @Edge(promise = 0, says = "rows that are cut and joined at any place")
    static void aRowCutAndJoinedAtEachPlaceIsTheSame() {
        OrderedMaps x = new OrderedMaps();
        int row = Edges.rowOf(x, 5, LEAST, 5, MOST, 0, -1, 7);
        for (int n = 0; n <= 7; n++) {
            int first = x.cut(row, n, 0);
            int others = x.cut(row, n, 1);
            due.is("the first", x.size(first), n);
            due.is("the others", x.size(others), 7 - n);
            due.is("joined at " + n, x.same(x.join(first, others), row), 1);
        }
    }

    @Edge(promise = 0, says = "heaps that are melded")
    static void heapsThatAreMeldedHaveAllItems() {
        OrderedMaps x = new OrderedMaps();
        int melded = x.meld(Edges.heapOf(x, 5, 1, 9), Edges.heapOf(x, 5, 0, 10, 2));
        edges.heapIs(x, melded, 0, 1, 2, 5, 5, 9, 10);
    }

    @Edge(promise = 0, says = "and what they share is worked once")
    static void foldsOfMapsWithCommonValuesWorkEachOnce() {
        OrderedMaps x = new OrderedMaps();
        int map = Edges.mapOf(x, false, false, 1, 2, 3, 4, 5, 6);
        int[] made = {x.part(map, 3, 0), x.part(map, 3, 1), x.kept(map, 2, 1), x.drop(map, 6), map, x.union(map, map)};
        long[] sums = {3, 15, 9, 15, 21, 21};
        int[] workedThen = {2, 5, 6, 6, 6, 6};
        for (int i = 0; i < made.length; i++) {
            due.is("sum " + i, x.fold(made[i], 1, 6), sums[i]);
            due.is("worked behind " + i, x.worked(), workedThen[i]);
        }
    }

    // TERMS

    @Edge(promise = 0, says = "each is a MAP, a ROW or a HEAP")
    static void eachThingIsOfTheSortOfTheActThatMadeIt() {
        for (int i = 0; i < acts().size(); i++) {
            OrderedMaps x = someThings();
            int made = (int) acts().get(i).of(x);
            due.is("act " + i + " makes a map", isMap(x, made), i < 11);
            due.is("act " + i + " makes a row", isRow(x, made), i >= 11 && i < 19);
            due.is("act " + i + " makes a heap", isHeap(x, made), i >= 19);
            due.is("maps", x.told(1), i < 11 ? 5 : 4);
            due.is("rows", x.told(2), i >= 11 && i < 19 ? 5 : 4);
            due.is("heaps", x.told(3), i >= 19 ? 5 : 4);
        }
    }

    @Edge(promise = 0, says = "A MAP has KEYS (longs, each once), each with a VALUE")
    static void anyLongIsAKeyWithAValueOfItsOwn() {
        long[] keys = {LEAST, LEAST + 1, -(1L << 32), -1, 0, 1, 1L << 32, MOST - 1, MOST};
        OrderedMaps x = new OrderedMaps();
        int map = x.map(false, false);
        for (int i = keys.length - 1; i >= 0; i--) {
            map = x.put(map, keys[i], 100 + i, 1);
        }
        edges.keysAre(x, map, keys);
        for (int i = 0; i < keys.length; i++) {
            due.is("value of " + keys[i], x.get(map, keys[i]), 100 + i);
        }
    }

    @Edge(promise = 0, says = "Its ORDER is SIGNED (as longs) or by BITS (as longs without sign)")
    static void aMapMadeOfOthersHasTheirOrder() {
        for (boolean bits : new boolean[] {false, true}) {
            OrderedMaps x = new OrderedMaps();
            int map = Edges.mapOf(x, bits, false, -2, 2);
            int other = Edges.mapOf(x, bits, false, -2, 2, 3);
            int[] made = {x.put(map, 2, 5, 1), x.drop(other, 3), x.union(map, map), x.both(map, other),
                x.less(map, 0), x.kept(map, 2, 0), x.part(other, bits ? 1 : LEAST, 1)};
            for (int each : made) {
                due.is("the first of " + each, x.key(each, 0), bits ? 2 : -2);
                due.is("before -2 in " + each, x.rank(each, -2), bits ? x.size(each) - 1 : 0);
                due.is("alike with the old one", x.both(each, map) >= 0, true);
            }
        }
    }

    @Edge(promise = 0, says = "A VALUE is a quotient, told as n and d: to be WORKED it is n / d")
    static void aValueIsNDividedByD() {
        OrderedMaps x = new OrderedMaps();
        for (long n = -12; n <= 12; n += 3) {
            for (long d = -4; d <= 4; d++) {
                if (d != 0) {
                    int map = x.put(x.map(false, false), n, n, d);
                    due.is(n + " / " + d, x.get(map, n), n / d);
                }
            }
        }
    }

    @Edge(promise = 0, says = "in another one it is LAZY")
    static void aFailingValueIsPutIntoAMapThatIsNotStrict() {
        OrderedMaps x = new OrderedMaps();
        int map = x.put(x.map(true, false), 3, 1, 0);
        due.is("it is put", map, 1);
        due.is("it is there", x.has(map, 3), true);
        due.is("it was not worked", x.worked(), 0);
    }

    @Edge(promise = 0, says = "A ROW has ITEMS (longs) at places from 0")
    static void anyLongIsAnItemOfARow() {
        OrderedMaps x = new OrderedMaps();
        long[] items = {MOST, 0, LEAST, 0, -1, 1L << 32};
        edges.rowIs(x, Edges.rowOf(x, items), items);
    }

    @Edge(promise = 0, says = "A HEAP has ITEMS (longs), each as often as it was pushed")
    static void anyLongIsAnItemOfAHeap() {
        OrderedMaps x = new OrderedMaps();
        edges.heapIs(x, Edges.heapOf(x, MOST, 0, LEAST, 0, -1, 1L << 32), LEAST, -1, 0, 0, 1L << 32, MOST);
    }

    @Edge(promise = 0, says = "Codes: -1 unknown (a THING, or of another sort than is told)")
    static void eachActOnAThingOfAnotherSortIsMinus1() {
        OrderedMaps x = someThings();
        for (int thing : new int[] {ROW, HEAP}) {
            edges.refused("put", x, -1, y -> y.put(thing, 3, 1, 1));
            edges.refused("union", x, -1, y -> y.union(MAP, thing));
            edges.refused("union", x, -1, y -> y.union(thing, MAP));
        }
        for (int thing : new int[] {MAP, HEAP}) {
            edges.refused("add", x, -1, y -> y.add(thing, true, 3));
            edges.refused("join", x, -1, y -> y.join(ROW, thing));
            edges.refused("join", x, -1, y -> y.join(thing, ROW));
        }
        for (int thing : new int[] {MAP, ROW}) {
            edges.refused("push", x, -1, y -> y.push(thing, 3));
            edges.refused("meld", x, -1, y -> y.meld(HEAP, thing));
            edges.refused("meld", x, -1, y -> y.meld(thing, HEAP));
        }
    }

    @Edge(promise = 0, says = "-2 outside of its range, or there would be more than 100")
    static void aCallOutsideOfItsRangeIsMinus2() {
        OrderedMaps x = someThings();
        edges.refused("part", x, -2, y -> y.part(MAP, 4, 2));
        edges.refused("kept", x, -2, y -> y.kept(MAP, 0, 0));
        edges.refused("cut", x, -2, y -> y.cut(ROW, 4, 0));
        edges.refused("replace", x, -2, y -> y.replace(ROW, 3, 0));
        edges.refused("find", x, -2, y -> y.find(ROW, -1, 0));
        edges.refused("told", x, -2, y -> y.told(4));
        int row50 = Edges.rowOfMany(x, 50);
        int row100 = x.join(row50, row50);
        edges.refused("join", x, -2, y -> y.join(row100, ROW));
        edges.refused("add", x, -2, y -> y.add(row100, true, 1));
    }

    @Edge(promise = 0, says = "-3 not so")
    static void whatIsNotSoIsMinus3() {
        OrderedMaps x = someThings();
        edges.refused("drop", x, -3, y -> y.drop(MAP, 5));
        edges.refused("find", x, -3, y -> y.find(ROW, 0, 4));
        edges.refused("pop", x, -3, y -> y.pop(8));
        int strict = x.map(false, true);
        edges.refused("union", x, -3, y -> y.union(MAP, strict));
        edges.refused("both", x, -3, y -> y.both(MAP, strict));
        edges.refused("less", x, -3, y -> y.less(MAP, strict));
    }

    @Edge(promise = 0, says = "-4 there are 300 THINGS")
    static void noActIsDoneWith300Things() {
        OrderedMaps x = someThings();
        Edges.fill(x, 300);
        for (int i = 0; i < acts().size(); i++) {
            due.is("act " + i, acts().get(i).of(x), -4);
        }
        due.is("things", x.told(0), 300);
        due.is("worked", x.worked(), 0);
    }

    @Edge(promise = 0, says = "-4 there are 300 THINGS")
    static void eachActCanMakeThe300thThing() {
        for (int i = 0; i < acts().size(); i++) {
            OrderedMaps x = someThings();
            Edges.fill(x, 299);
            due.is("act " + i, acts().get(i).of(x), 299);
            due.is("once more", acts().get(i).of(x), -4);
        }
    }

    @Edge(promise = 0, says = "Of the codes and exceptions that a call tells, in the order in which it tells them, "
            + "the first that fits comes")
    static void theFirstCodeThatFitsComes() {
        OrderedMaps x = someThings();
        int strict = x.map(true, true);
        edges.refused("an unknown map ahead of the side", x, -1, y -> y.part(99, 1, 7));
        edges.refused("an unknown row ahead of the place", x, -1, y -> y.replace(99, -1, 1));
        edges.refused("the place ahead of none", x, -2, y -> y.find(ROW, -1, MOST));
        edges.thrown("no map ahead of no place", x, IllegalArgumentException.class, 0, y -> y.key(99, -1));
        Edges.fill(x, 300);
        edges.refused("not alike ahead of 300 things", x, -3, y -> y.union(MAP, strict));
        edges.refused("300 things ahead of no key", x, -4, y -> y.drop(MAP, 5));
        edges.refused("300 things ahead of the failure", x, -4, y -> y.put(strict, 5, 1, 0));
    }

    // MAPS

    @Edge(promise = 4, says = "A MAP that has a KEY with a VALUE n and d besides (in place of the one that it had)")
    static void putBesidesAndInPlace() {
        OrderedMaps x = someThings();
        int besides = x.put(MAP, 5, 20, 3);
        int inPlace = x.put(MAP, 4, 20, 3);
        edges.keysAre(x, besides, -1, 4, 5, 9);
        edges.keysAre(x, inPlace, -1, 4, 9);
        due.is("the new key", x.get(besides, 5), 6);
        due.is("the old value", x.get(besides, 4), 4);
        due.is("the new value", x.get(inPlace, 4), 6);
        due.is("the old map's value", x.get(MAP, 4), 4);
    }

    @Edge(promise = 6, says = "A MAP with the KEYS of two, and the VALUES of a where both have one")
    static void unionOfTwoMapsEachWithKeysOfItsOwn() {
        OrderedMaps x = new OrderedMaps();
        int a = x.put(x.put(x.map(false, false), 1, 10, 1), 2, 20, 1);
        int b = x.put(x.put(x.map(false, false), 2, 200, 1), 3, 300, 1);
        int ab = x.union(a, b);
        int ba = x.union(b, a);
        edges.keysAre(x, ab, 1, 2, 3);
        edges.keysAre(x, ba, 1, 2, 3);
        due.is("a and b", x.fold(ab, 1, 3), 330);
        due.is("b and a", x.fold(ba, 1, 3), 510);
    }

    @Edge(promise = 7, says = "A MAP with the KEYS that both have, and the VALUES of a")
    static void bothOfTwoMapsEachWithKeysOfItsOwn() {
        OrderedMaps x = new OrderedMaps();
        int a = x.put(x.put(x.map(false, false), 1, 10, 1), 2, 20, 1);
        int b = x.put(x.put(x.map(false, false), 2, 200, 1), 3, 300, 1);
        edges.keysAre(x, x.both(a, b), 2);
        due.is("a and b", x.get(x.both(a, b), 2), 20);
        due.is("b and a", x.get(x.both(b, a), 2), 200);
    }

    @Edge(promise = 8, says = "A MAP with the KEYS of a that b has not")
    static void lessOfTwoMapsEachWithKeysOfItsOwn() {
        OrderedMaps x = new OrderedMaps();
        int a = x.put(x.put(x.map(false, false), 1, 10, 1), 2, 20, 1);
        int b = x.put(x.put(x.map(false, false), 2, 200, 1), 3, 300, 1);
        edges.keysAre(x, x.less(a, b), 1);
        edges.keysAre(x, x.less(b, a), 3);
        due.is("its value", x.get(x.less(a, b), 1), 10);
    }

    @Edge(promise = 9, says = "A MAP with the KEYS that are before one, by the ORDER (side = 0), behind it (1)")
    static void partOfAMapInEachOrder() {
        OrderedMaps x = new OrderedMaps();
        int signed = Edges.mapOf(x, false, false, -5, -3, 0, 3, 5);
        int bits = Edges.mapOf(x, true, false, -5, -3, 0, 3, 5);
        edges.keysAre(x, x.part(signed, 3, 0), -5, -3, 0);
        edges.keysAre(x, x.part(signed, 3, 1), 5);
        edges.keysAre(x, x.part(bits, 3, 0), 0);
        edges.keysAre(x, x.part(bits, 3, 1), 5, -5, -3);
    }

    @Edge(promise = 10, says = "A MAP with the KEYS that leave r, divided by m (r from 0 to m - 1 for each KEY)")
    static void eachKeyIsKeptForOneR() {
        OrderedMaps x = new OrderedMaps();
        int map = Edges.mapOf(x, false, false, -7, -6, -5, -4, -3, -2, -1, 0, 1, 2, 3, 4, 5, 6, 7);
        edges.keysAre(x, x.kept(map, 5, 0), -5, 0, 5);
        edges.keysAre(x, x.kept(map, 5, 1), -4, 1, 6);
        edges.keysAre(x, x.kept(map, 5, 2), -3, 2, 7);
        edges.keysAre(x, x.kept(map, 5, 3), -7, -2, 3);
        edges.keysAre(x, x.kept(map, 5, 4), -6, -1, 4);
    }

    @Edge(promise = 12, says = "The VALUE of a KEY: it is needed")
    static void getWorksTheValueOfItsKeyAlone() {
        OrderedMaps x = someThings();
        due.is("get", x.get(MAP, 9), 9);
        due.is("worked", x.worked(), 1);
        due.is("once more", x.get(MAP, 9), 9);
        due.is("in an older map", x.has(2, 9), false);
        due.is("of another key in an older map", x.get(2, 4), 4);
        due.is("worked", x.worked(), 2);
        due.is("in the new map", x.get(MAP, 4), 4);
        due.is("worked", x.worked(), 2);
    }

    @Edge(promise = 13, says = "The KEY at a place of the ORDER (0 the first)")
    static void keyAndRankGoTogether() {
        for (boolean bits : new boolean[] {false, true}) {
            OrderedMaps x = new OrderedMaps();
            int map = Edges.mapOf(x, bits, false, 7, -7, LEAST, 0, MOST, 3);
            for (int place = 0; place < 6; place++) {
                due.is("the rank of the key at " + place, x.rank(map, x.key(map, place)), place);
            }
        }
    }

    @Edge(promise = 15, says = "The sum (in 64 bits) of the VALUES of all KEYS that are not before one, "
            + "and not behind another one")
    static void foldOfSomeKeysOfAMap() {
        OrderedMaps x = new OrderedMaps();
        int map = x.map(false, false);
        for (int key = -4; key <= 4; key += 2) {
            map = x.put(map, key, 1 << (key + 4), 1);
        }
        due.is("all", x.fold(map, -4, 4), 1 + 4 + 16 + 64 + 256);
        due.is("from one to one", x.fold(map, -2, 2), 4 + 16 + 64);
        due.is("between them", x.fold(map, -3, 3), 4 + 16 + 64);
        due.is("one alone", x.fold(map, 0, 0), 16);
        due.is("none", x.fold(map, 1, 1), 0);
        due.is("each worked once", x.worked(), 5);
    }

    // ROWS

    @Edge(promise = 17, says = "A ROW with an ITEM more, ahead of the others or behind them")
    static void addAheadAndBehind() {
        OrderedMaps x = someThings();
        edges.rowIs(x, x.add(ROW, true, 8), 8, 3, 1, 2);
        edges.rowIs(x, x.add(ROW, false, 8), 3, 1, 2, 8);
    }

    @Edge(promise = 18, says = "A ROW with the ITEMS of a, then of b")
    static void joinOfTwoRows() {
        OrderedMaps x = someThings();
        edges.rowIs(x, x.join(ROW, 6), 3, 1, 2, 3, 1);
        edges.rowIs(x, x.join(6, ROW), 3, 1, 3, 1, 2);
    }

    @Edge(promise = 23, says = "The place of the first ITEM from a place on that is not below a number")
    static void findTellsThePlaceInTheWholeRow() {
        OrderedMaps x = new OrderedMaps();
        int row = Edges.rowOf(x, 4, -1, 7, 7, 0);
        due.is("from 0", x.find(row, 0, 5), 2);
        due.is("from 2", x.find(row, 2, 5), 2);
        due.is("from 3", x.find(row, 3, 5), 3);
        due.is("from 4", x.find(row, 4, 5), -3);
        due.is("from 4, of 0", x.find(row, 4, 0), 4);
        due.is("from 1, of 0", x.find(row, 1, 0), 2);
        due.is("from 1, of -1", x.find(row, 1, -1), 1);
    }

    // HEAPS

    @Edge(promise = 27, says = "A HEAP without its least ITEM (once)")
    static void popTakesTheItemsByOrder() {
        OrderedMaps x = new OrderedMaps();
        int heap = Edges.heapOf(x, 4, 2, 9, 2, 7);
        int popped = x.pop(heap);
        edges.heapIs(x, popped, 2, 4, 7, 9);
        edges.heapIs(x, heap, 2, 2, 4, 7, 9);
    }

    @Edge(promise = 28, says = "The least ITEM")
    static void leastTakesNothing() {
        OrderedMaps x = someThings();
        due.is("least", x.least(HEAP), 1);
        due.is("once more", x.least(HEAP), 1);
        due.is("size", x.size(HEAP), 3);
    }

    // ALL

    @Edge(promise = 30, says = "Whether a is what b is: MAPS of one ORDER with the same KEYS (whatever VALUES, "
            + "STRICT or not), ROWS with the same ITEMS in the same places, HEAPS with the same ITEMS as often: "
            + "1, 0 (also of two sorts)")
    static void sameIsSoEitherWay() {
        OrderedMaps x = someThings();
        Edges.mapOf(x, false, true, 4, -1, 9);
        Edges.mapOf(x, true, false, 4, 9);
        Edges.rowOf(x, 3, 1, 2);
        Edges.heapOf(x, 2, 1, 3);
        for (int a = 0; a <= HEAP; a++) {
            due.is("itself", x.same(a, a), 1);
            for (int b = 0; b < a; b++) {
                due.is(a + " and " + b, x.same(a, b), 0);
                due.is(b + " and " + a, x.same(b, a), 0);
            }
        }
        int strict = HEAP + 4;
        int bits = strict + 3;
        int row = bits + 4;
        int heap = row + 4;
        int[] twins = {MAP, strict, ROW, row, HEAP, heap};
        for (int i = 0; i < twins.length; i++) {
            for (int j = 0; j < twins.length; j++) {
                due.is(twins[i] + " and " + twins[j], x.same(twins[i], twins[j]), i / 2 == j / 2 ? 1 : 0);
            }
        }
        due.is("of two orders", x.same(bits, x.drop(MAP, -1)), 0);
    }

    @Edge(promise = 32, says = "How often a VALUE was WORKED (those that FAILED count, too)")
    static void workedCountsAllThatWasWorked() {
        OrderedMaps x = new OrderedMaps();
        int lazy = x.put(x.put(x.put(x.map(false, false), 1, 1, 1), 2, 1, 0), 3, 1, 1);
        int strict = Edges.mapOf(x, false, true, 1, 2);
        due.is("the strict ones", x.worked(), 2);
        edges.thrown("fold up to the one that fails", x, ArithmeticException.class, 2, y -> y.fold(lazy, 1, 3));
        edges.thrown("fold once more", x, ArithmeticException.class, 1, y -> y.fold(lazy, 1, 3));
        due.is("those of the strict map", x.fold(strict, 1, 3), 3);
        due.is("worked", x.worked(), 5);
    }

    @Edge(promise = 33, says = "How many: 0 THINGS, 1 MAPS, 2 ROWS, 3 HEAPS")
    static void toldCountsTheThingsMadeByAllActs() {
        OrderedMaps x = someThings();
        for (Edges.Call act : acts()) {
            act.of(x);
        }
        int[] counts = {36, 15, 12, 9};
        for (int what = 0; what < 4; what++) {
            due.is("told " + what, x.told(what), counts[what]);
        }
    }
}
