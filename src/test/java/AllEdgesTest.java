import java.util.NoSuchElementException;

/** The boundary cases of promises 1, 2 and 29 to 33. */
public final class AllEdgesTest {
    private static final long LEAST = Edges.LEAST;
    private static final long MOST = Edges.MOST;
    private static final Edges edges = new Edges();
    private static final Due due = edges.due;

    public static void main(String[] args) throws ReflectiveOperationException {
        edges.runAll(AllEdgesTest.class);
    }

    /** Every call that takes a thing, with a number that no thing has. */
    private static void isUnknown(OrderedMaps x, int thing) {
        due.is("put", x.put(thing, 7, 1, 1), -1);
        due.is("drop", x.drop(thing, 7), -1);
        due.is("union", x.union(thing, thing), -1);
        due.is("both", x.both(thing, thing), -1);
        due.is("less", x.less(thing, thing), -1);
        due.is("part", x.part(thing, 7, 0), -1);
        due.is("kept", x.kept(thing, 1, 0), -1);
        due.is("has", x.has(thing, 7), false);
        due.fails("get", IllegalArgumentException.class, () -> x.get(thing, 7));
        due.fails("key", IllegalArgumentException.class, () -> x.key(thing, 0));
        due.is("rank", x.rank(thing, 7), -1);
        due.fails("fold", IllegalArgumentException.class, () -> x.fold(thing, 0, 9));
        due.is("add", x.add(thing, true, 1), -1);
        due.is("join", x.join(thing, thing), -1);
        due.is("cut", x.cut(thing, 0, 0), -1);
        due.is("replace", x.replace(thing, 0, 1), -1);
        due.is("turned", x.turned(thing), -1);
        due.fails("at", IllegalArgumentException.class, () -> x.at(thing, 0));
        due.is("find", x.find(thing, 0, 0), -1);
        due.is("push", x.push(thing, 1), -1);
        due.is("meld", x.meld(thing, thing), -1);
        due.is("pop", x.pop(thing), -1);
        due.fails("least", IllegalArgumentException.class, () -> x.least(thing));
        due.is("size", x.size(thing), -1);
        due.is("same", x.same(thing, thing), -1);
        due.is("sound", x.sound(thing), false);
    }

    private static void hasNoThings(OrderedMaps x) {
        for (int what = 0; what < 4; what++) {
            due.is("told " + what, x.told(what), 0);
        }
    }

    // PROMISE 1

    @Edge(promise = 1, says = "No THINGS")
    static void aNewObjectHasNoThings() {
        OrderedMaps x = new OrderedMaps();
        hasNoThings(x);
        isUnknown(x, 0);
        isUnknown(x, OrderedMaps.NONE);
        hasNoThings(x);
        due.is("the first number", x.row(), 0);
    }

    @Edge(promise = 1, says = "nothing was WORKED")
    static void aNewObjectHasWorkedNothingWhateverOthersWorked() {
        OrderedMaps other = new OrderedMaps();
        other.put(other.map(false, true), 1, 1, 1);
        OrderedMaps x = new OrderedMaps();
        due.is("worked", x.worked(), 0);
        due.is("things", x.told(0), 0);
        x.put(x.map(false, true), 1, 1, 1);
        due.is("worked by the other", other.worked(), 1);
    }

    // PROMISE 2

    @Edge(promise = 2, says = "All THINGS go")
    static void behindClearEveryOldNumberIsUnknown() {
        OrderedMaps x = Edges.oneOfEach();
        x.clear();
        hasNoThings(x);
        for (int thing = 0; thing < 6; thing++) {
            isUnknown(x, thing);
        }
        due.is("worked", x.worked(), 0);
    }

    @Edge(promise = 2, says = "All THINGS go")
    static void behindClearNumbersGoFrom0Again() {
        OrderedMaps x = Edges.oneOfEach();
        x.clear();
        due.is("a heap where the map was", x.heap(), 0);
        due.is("it is a heap", x.told(3), 1);
        due.is("it is no map", x.told(1), 0);
        due.is("an old map's number", x.size(1), -1);
        due.is("a row", x.row(), 1);
        due.is("it has no items", x.size(1), 0);
    }

    @Edge(promise = 2, says = "All THINGS go")
    static void clearOfANewObjectAndTwice() {
        OrderedMaps x = new OrderedMaps();
        x.clear();
        hasNoThings(x);
        x.row();
        x.clear();
        x.clear();
        hasNoThings(x);
        due.is("the first number", x.row(), 0);
    }

    @Edge(promise = 2, says = "All THINGS go")
    static void clearOf300ThingsLeavesRoom() {
        OrderedMaps x = new OrderedMaps();
        Edges.fill(x, 300);
        due.is("the 301st", x.row(), -4);
        x.clear();
        hasNoThings(x);
        for (int i = 0; i < 200; i++) {
            due.is("made anew", x.heap(), i);
        }
    }

    @Edge(promise = 2, says = "All THINGS go")
    static void behindClear300ThingsAreTheMostAgain() {
        OrderedMaps x = Edges.oneOfEach();
        x.clear();
        edges.lastThing(x, y -> y.heap());
    }

    @Edge(promise = 2, says = "how often something was WORKED stays")
    static void clearKeepsHowOftenSomethingWasWorked() {
        OrderedMaps x = new OrderedMaps();
        int strict = x.put(x.map(false, true), 1, 8, 2);
        due.fails("put", ArithmeticException.class, () -> x.put(strict, 2, 8, 0));
        int lazy = x.put(x.map(false, false), 1, 8, 2);
        x.get(lazy, 1);
        due.is("worked", x.worked(), 3);
        x.clear();
        due.is("it stays", x.worked(), 3);
        x.put(x.map(false, true), 1, 8, 2);
        due.is("and goes on", x.worked(), 4);
        x.clear();
        due.is("it stays again", x.worked(), 4);
    }

    @Edge(promise = 2, says = "All THINGS go")
    static void behindClearTheSameValueIsWorkedAnew() {
        OrderedMaps x = new OrderedMaps();
        x.get(x.put(x.map(false, false), 1, 8, 2), 1);
        x.clear();
        int map = x.put(x.map(false, false), 1, 8, 2);
        due.is("not yet", x.worked(), 1);
        due.is("get", x.get(map, 1), 4);
        due.is("anew", x.worked(), 2);
    }

    // PROMISE 29

    @Edge(promise = 29, says = "-1")
    static void sizeOfNoThing() {
        edges.unknown((y, thing) -> y.size(thing));
    }

    @Edge(promise = 29, says = "How many KEYS or ITEMS a THING has")
    static void sizeOfEmptyThings() {
        OrderedMaps x = new OrderedMaps();
        due.is("a map", x.size(x.map(true, true)), 0);
        due.is("a row", x.size(x.row()), 0);
        due.is("a heap", x.size(x.heap()), 0);
    }

    @Edge(promise = 29, says = "How many KEYS or ITEMS a THING has")
    static void sizeOfThingsWith100() {
        OrderedMaps x = new OrderedMaps();
        due.is("a row", x.size(Edges.rowOfMany(x, 100)), 100);
        due.is("a heap", x.size(Edges.heapOfMany(x, 100)), 100);
        x.clear();
        due.is("a map", x.size(Edges.mapOfMany(x, false, 0, 100)), 100);
    }

    // PROMISE 30

    @Edge(promise = 30, says = "-1")
    static void sameOfNoThings() {
        edges.unknown((y, thing) -> y.same(thing, 1));
        edges.unknown((y, thing) -> y.same(1, thing));
        edges.unknown((y, thing) -> y.same(thing, thing));
    }

    @Edge(promise = 30, says = "0 (also of two sorts)")
    static void sameOfTwoSortsWithAndWithoutParts() {
        OrderedMaps x = Edges.oneOfEach();
        for (int a = 0; a < 6; a++) {
            for (int b = 0; b < 6; b++) {
                due.is(a + " and " + b, x.same(a, b), a == b ? 1 : 0);
            }
        }
    }

    @Edge(promise = 30, says = "MAPS of one ORDER with the same KEYS")
    static void sameOfMapsOfTwoOrders() {
        OrderedMaps x = new OrderedMaps();
        int signed = Edges.mapOf(x, false, false, 1);
        int bits = Edges.mapOf(x, true, false, 1);
        due.is("with the same key", x.same(signed, bits), 0);
        due.is("without keys", x.same(0, 2), 0);
    }

    @Edge(promise = 30, says = "whatever VALUES, STRICT or not")
    static void sameOfMapsWithOtherValuesNeedsNone() {
        OrderedMaps x = new OrderedMaps();
        int lazy = x.put(x.map(false, false), 1, 8, 0);
        int other = x.put(x.map(false, false), 1, 8, 2);
        int strict = x.put(x.map(false, true), 1, 9, 3);
        due.is("other values", x.same(lazy, other), 1);
        due.is("a strict one", x.same(lazy, strict), 1);
        due.is("a lazy one", x.same(strict, lazy), 1);
        due.is("empty ones", x.same(0, 4), 1);
        due.is("worked by the put alone", x.worked(), 1);
    }

    @Edge(promise = 30, says = "with the same KEYS")
    static void sameOfMapsWithAKeyMoreOrAnother() {
        OrderedMaps x = new OrderedMaps();
        int map = Edges.mapOf(x, false, false, LEAST, 0, MOST);
        due.is("made in another way", x.same(map, Edges.mapOf(x, false, false, MOST, LEAST, 0)), 1);
        due.is("one less", x.same(map, x.drop(map, MOST)), 0);
        due.is("one more", x.same(map, x.put(map, 1, 1, 1)), 0);
        due.is("another first", x.same(map, Edges.mapOf(x, false, false, LEAST + 1, 0, MOST)), 0);
        due.is("another last", x.same(map, Edges.mapOf(x, false, false, LEAST, 0, MOST - 1)), 0);
    }

    @Edge(promise = 30, says = "ROWS with the same ITEMS in the same places")
    static void sameOfRowsInOtherPlaces() {
        OrderedMaps x = new OrderedMaps();
        int row = Edges.rowOf(x, 1, 2, 1);
        due.is("turned, it is the same", x.same(row, x.turned(row)), 1);
        due.is("other places", x.same(row, Edges.rowOf(x, 1, 1, 2)), 0);
        due.is("another first", x.same(row, x.replace(row, 0, 5)), 0);
        due.is("another last", x.same(row, x.replace(row, 2, 5)), 0);
        due.is("one less", x.same(row, Edges.rowOf(x, 1, 2)), 0);
        due.is("one more", x.same(row, Edges.rowOf(x, 1, 2, 1, 1)), 0);
        due.is("without items", x.same(Edges.rowOf(x), Edges.rowOf(x)), 1);
    }

    @Edge(promise = 30, says = "HEAPS with the same ITEMS as often")
    static void sameOfHeapsWithItemsNotAsOften() {
        OrderedMaps x = new OrderedMaps();
        int heap = Edges.heapOf(x, 1, 2, 1);
        due.is("pushed in another order", x.same(heap, Edges.heapOf(x, 2, 1, 1)), 1);
        due.is("melded", x.same(heap, x.meld(Edges.heapOf(x, 1), Edges.heapOf(x, 1, 2))), 1);
        due.is("popped", x.same(heap, x.pop(Edges.heapOf(x, 2, 1, 0, 1))), 1);
        due.is("not as often", x.same(heap, Edges.heapOf(x, 2, 1, 2)), 0);
        due.is("another least", x.same(heap, Edges.heapOf(x, 0, 1, 2)), 0);
        due.is("another most", x.same(heap, Edges.heapOf(x, 1, 1, 3)), 0);
        due.is("one less", x.same(heap, Edges.heapOf(x, 1, 2)), 0);
        due.is("one more", x.same(heap, Edges.heapOf(x, 1, 2, 1, 1)), 0);
        due.is("without items", x.same(Edges.heapOf(x), Edges.heapOf(x)), 1);
    }

    // PROMISE 31

    @Edge(promise = 31, says = "False of an unknown one")
    static void soundOfNoThing() {
        edges.unknown((y, thing) -> y.sound(thing) ? 1 : -1);
    }

    @Edge(promise = 31, says = "so it must be")
    static void soundOfEmptyThingsAndOfThingsWith100() {
        OrderedMaps x = Edges.oneOfEach();
        for (int thing = 0; thing < 6; thing++) {
            due.is("thing " + thing, x.sound(thing), true);
        }
        due.is("a row", x.sound(Edges.rowOfMany(x, 100)), true);
        due.is("a heap", x.sound(Edges.heapOfMany(x, 100)), true);
        x.clear();
        due.is("a map", x.sound(Edges.mapOfMany(x, true, -50, 100)), true);
    }

    @Edge(promise = 31, says = "so it must be")
    static void soundOfAMapWhoseValueFailedAndBehindRefusedCalls() {
        OrderedMaps x = new OrderedMaps();
        int map = x.put(x.map(true, false), -1, 8, 0);
        due.fails("get", ArithmeticException.class, () -> x.get(map, -1));
        due.is("the lazy map", x.sound(map), true);
        int strict = x.put(x.map(true, true), -1, 8, 1);
        due.fails("put", ArithmeticException.class, () -> x.put(strict, -1, 8, 0));
        due.is("the strict map", x.sound(strict), true);
        due.is("no other was made", x.sound(strict + 1), false);
    }

    // PROMISE 32

    @Edge(promise = 32, says = "those that FAILED count, too")
    static void workedCountsWhatFailed() {
        OrderedMaps x = new OrderedMaps();
        int strict = x.map(false, true);
        int lazy = x.put(x.map(false, false), 1, 8, 0);
        edges.thrown("put", x, ArithmeticException.class, 1, y -> y.put(strict, 1, 8, 0));
        edges.thrown("get", x, ArithmeticException.class, 1, y -> y.get(lazy, 1));
        edges.thrown("fold", x, ArithmeticException.class, 1, y -> y.fold(lazy, 0, 9));
        due.is("worked", x.worked(), 3);
    }

    @Edge(promise = 32, says = "How often a VALUE was WORKED")
    static void workedDoesNotCountWhatIsRefusedOrKnown() {
        OrderedMaps x = new OrderedMaps();
        int map = x.put(x.map(false, true), 1, 8, 2);
        due.is("worked", x.worked(), 1);
        due.is("known", x.get(map, 1), 4);
        due.is("refused", x.put(99, 1, 8, 2), -1);
        due.fails("no such map", IllegalArgumentException.class, () -> x.get(99, 1));
        due.fails("no such key", NoSuchElementException.class, () -> x.get(map, 2));
        due.fails("no such map", IllegalArgumentException.class, () -> x.fold(99, 1, 1));
        due.is("worked", x.worked(), 1);
        due.is("asked again", x.worked(), 1);
    }

    // PROMISE 33

    @Edge(promise = 33, says = "-2")
    static void toldOfNothingThatIsCounted() {
        for (OrderedMaps x : new OrderedMaps[] {new OrderedMaps(), Edges.oneOfEach()}) {
            for (int what : new int[] {-1, 4, 5, Integer.MIN_VALUE, Integer.MAX_VALUE}) {
                edges.refused("told " + what, x, -2, y -> y.told(what));
            }
        }
    }

    @Edge(promise = 33, says = "0 THINGS, 1 MAPS, 2 ROWS, 3 HEAPS")
    static void toldOfEachSort() {
        OrderedMaps x = new OrderedMaps();
        hasNoThings(x);
        x.heap();
        x.row();
        x.heap();
        x.map(false, false);
        x.heap();
        x.row();
        int[] due6 = {6, 1, 2, 3};
        for (int what = 0; what < 4; what++) {
            due.is("told " + what, x.told(what), due6[what]);
        }
    }

    @Edge(promise = 33, says = "0 THINGS, 1 MAPS, 2 ROWS, 3 HEAPS")
    static void toldOf300Things() {
        for (int sort = 1; sort < 4; sort++) {
            OrderedMaps x = new OrderedMaps();
            for (int i = 0; i < 301; i++) {
                int made = sort == 1 ? x.map(false, false) : sort == 2 ? x.row() : x.heap();
                due.is("made", made, i < 300 ? i : -4);
            }
            for (int what = 0; what < 4; what++) {
                due.is("told " + what, x.told(what), what == 0 || what == sort ? 300 : 0);
            }
        }
    }
}
