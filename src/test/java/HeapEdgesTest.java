import java.util.NoSuchElementException;

/** The boundary cases of promises 24 to 28: heaps. */
public final class HeapEdgesTest {
    private static final long LEAST = Edges.LEAST;
    private static final long MOST = Edges.MOST;
    /** Things of the other sorts in Edges.oneOfEach(). */
    private static final int[] NO_HEAPS = {0, 1, 2, 3};
    private static final Edges edges = new Edges();
    private static final Due due = edges.due;

    public static void main(String[] args) throws ReflectiveOperationException {
        edges.runAll(HeapEdgesTest.class);
    }

    /** An object with 300 things: 0 a map, 1 a heap without items, 3 one with two, then rows. */
    private static OrderedMaps full() {
        OrderedMaps x = new OrderedMaps();
        x.map(false, false);
        Edges.heapOf(x, 1, 2);
        Edges.fill(x, 300);
        return x;
    }

    // PROMISE 24

    @Edge(promise = 24, says = "A HEAP without ITEMS")
    static void aNewHeapHasNoItems() {
        OrderedMaps x = new OrderedMaps();
        due.is("its number", x.heap(), 0);
        edges.heapIs(x, 0);
        due.is("heaps", x.told(3), 1);
    }

    @Edge(promise = 24, says = "-4")
    static void heap301IsRefused() {
        edges.lastThing(new OrderedMaps(), y -> y.heap());
    }

    // PROMISE 25

    @Edge(promise = 25, says = "-1")
    static void pushToNoHeap() {
        edges.unknown((y, heap) -> y.push(heap, 1), NO_HEAPS);
    }

    @Edge(promise = 25, says = "-1; -4")
    static void pushToNoHeapIsMinus1EvenWith300Things() {
        edges.refused("to a map", full(), -1, y -> y.push(0, 1));
        edges.refused("to a row", full(), -1, y -> y.push(299, 1));
        edges.refused("to 300", full(), -1, y -> y.push(300, 1));
    }

    @Edge(promise = 25, says = "-4")
    static void pushOfThing301() {
        OrderedMaps x = new OrderedMaps();
        x.heap();
        edges.lastThing(x, y -> y.push(0, 1));
    }

    @Edge(promise = 25, says = "-4; -2")
    static void pushIsMinus4AheadOfMinus2() {
        OrderedMaps x = new OrderedMaps();
        int heap = Edges.heapOfMany(x, 100);
        edges.refused("with room for things", x, -2, y -> y.push(heap, 1));
        Edges.fill(x, 300);
        edges.refused("with 300 things", x, -4, y -> y.push(heap, 1));
    }

    @Edge(promise = 25, says = "-2")
    static void pushOfItem101() {
        OrderedMaps x = new OrderedMaps();
        int heap = Edges.heapOfMany(x, 99);
        int most = x.push(heap, 99);
        due.is("item 100", x.size(most), 100);
        for (long item : new long[] {LEAST, 50, 99, MOST}) {
            edges.refused("item 101", x, -2, y -> y.push(most, item));
        }
    }

    @Edge(promise = 25, says = "A HEAP with an ITEM more")
    static void pushToAnEmptyHeap() {
        OrderedMaps x = new OrderedMaps();
        x.heap();
        edges.heapIs(x, x.push(0, LEAST), LEAST);
        edges.heapIs(x, x.push(0, MOST), MOST);
    }

    @Edge(promise = 25, says = "A HEAP with an ITEM more")
    static void pushOfTheLeastTheMostAndAnEqualItem() {
        OrderedMaps x = new OrderedMaps();
        int heap = Edges.heapOf(x, 0, 5);
        edges.heapIs(x, x.push(heap, LEAST), LEAST, 0, 5);
        edges.heapIs(x, x.push(heap, MOST), 0, 5, MOST);
        edges.heapIs(x, x.push(heap, 0), 0, 0, 5);
        edges.heapIs(x, x.push(heap, 5), 0, 5, 5);
        edges.heapIs(x, x.push(heap, 3), 0, 3, 5);
        edges.heapIs(x, heap, 0, 5);
    }

    // PROMISE 26

    @Edge(promise = 26, says = "-1")
    static void meldOfNoHeaps() {
        edges.unknown((y, heap) -> y.meld(heap, 5), NO_HEAPS);
        edges.unknown((y, heap) -> y.meld(5, heap), NO_HEAPS);
        edges.unknown((y, heap) -> y.meld(heap, heap), NO_HEAPS);
    }

    @Edge(promise = 26, says = "-1; -4")
    static void meldOfNoHeapsIsMinus1EvenWith300Things() {
        edges.refused("with a map", full(), -1, y -> y.meld(1, 0));
        edges.refused("of a row", full(), -1, y -> y.meld(299, 1));
    }

    @Edge(promise = 26, says = "-4")
    static void meldOfThing301() {
        OrderedMaps x = new OrderedMaps();
        x.heap();
        edges.lastThing(x, y -> y.meld(0, 0));
    }

    @Edge(promise = 26, says = "-4; -2")
    static void meldIsMinus4AheadOfMinus2() {
        OrderedMaps x = new OrderedMaps();
        int heap = Edges.heapOfMany(x, 51);
        edges.refused("with room for things", x, -2, y -> y.meld(heap, heap));
        Edges.fill(x, 300);
        edges.refused("with 300 things", x, -4, y -> y.meld(heap, heap));
    }

    @Edge(promise = 26, says = "-2")
    static void meldOf101Items() {
        OrderedMaps x = new OrderedMaps();
        int fifty = Edges.heapOfMany(x, 50);
        int more = x.push(fifty, 7);
        int most = x.meld(fifty, fifty);
        due.is("100 items", x.size(most), 100);
        due.is("sound", x.sound(most), true);
        edges.refused("50 and 51", x, -2, y -> y.meld(fifty, more));
        edges.refused("51 and 50", x, -2, y -> y.meld(more, fifty));
        edges.refused("100 and 1", x, -2, y -> y.meld(most, 1));
        edges.refused("1 and 100", x, -2, y -> y.meld(1, most));
        edges.refused("100 and 100", x, -2, y -> y.meld(most, most));
    }

    @Edge(promise = 26, says = "-2")
    static void meldOf100ItemsWithNone() {
        OrderedMaps x = new OrderedMaps();
        int most = Edges.heapOfMany(x, 100);
        due.is("with none", x.same(x.meld(most, 0), most), 1);
        due.is("of none", x.same(x.meld(0, most), most), 1);
    }

    @Edge(promise = 26, says = "A HEAP with all ITEMS of two")
    static void meldOfEmptyHeapsAndOfItself() {
        OrderedMaps x = new OrderedMaps();
        int heap = Edges.heapOf(x, 2, 1);
        edges.heapIs(x, x.meld(0, 0));
        edges.heapIs(x, x.meld(heap, 0), 1, 2);
        edges.heapIs(x, x.meld(0, heap), 1, 2);
        edges.heapIs(x, x.meld(heap, heap), 1, 1, 2, 2);
    }

    @Edge(promise = 26, says = "A HEAP with all ITEMS of two")
    static void meldOfTheEndsOfTheLongs() {
        OrderedMaps x = new OrderedMaps();
        int a = Edges.heapOf(x, LEAST, MOST);
        int b = Edges.heapOf(x, MOST, -1, LEAST);
        edges.heapIs(x, x.meld(a, b), LEAST, LEAST, -1, MOST, MOST);
        edges.heapIs(x, x.meld(b, a), LEAST, LEAST, -1, MOST, MOST);
    }

    // PROMISE 27

    @Edge(promise = 27, says = "-1")
    static void popOfNoHeap() {
        edges.unknown((y, heap) -> y.pop(heap), NO_HEAPS);
    }

    @Edge(promise = 27, says = "-1; -4; -3")
    static void popOfNoHeapIsMinus1EvenWith300Things() {
        edges.refused("of a map", full(), -1, y -> y.pop(0));
        edges.refused("of an empty row", full(), -1, y -> y.pop(299));
        edges.refused("of 300", full(), -1, y -> y.pop(300));
    }

    @Edge(promise = 27, says = "-4")
    static void popOfThing301() {
        OrderedMaps x = new OrderedMaps();
        int heap = Edges.heapOf(x, 1);
        edges.lastThing(x, y -> y.pop(heap));
    }

    @Edge(promise = 27, says = "-4; -3")
    static void popIsMinus4AheadOfMinus3() {
        edges.refused("pop", full(), -4, y -> y.pop(1));
    }

    @Edge(promise = 27, says = "-3 it has none")
    static void popOfAnEmptyHeap() {
        OrderedMaps x = new OrderedMaps();
        x.heap();
        edges.refused("a new one", x, -3, y -> y.pop(0));
        int emptied = x.pop(x.push(0, 1));
        edges.refused("an emptied one", x, -3, y -> y.pop(emptied));
    }

    @Edge(promise = 27, says = "without its least ITEM (once)")
    static void popOfAnItemThatIsThereTwice() {
        OrderedMaps x = new OrderedMaps();
        int heap = Edges.heapOf(x, LEAST, 3, LEAST);
        int fewer = x.pop(heap);
        edges.heapIs(x, fewer, LEAST, 3);
        edges.heapIs(x, heap, LEAST, LEAST, 3);
    }

    @Edge(promise = 27, says = "without its least ITEM (once)")
    static void popOf100ItemsLeavesRoomForOne() {
        OrderedMaps x = new OrderedMaps();
        int fewer = x.pop(Edges.heapOfMany(x, 100));
        due.is("99 items", x.size(fewer), 99);
        due.is("the least", x.least(fewer), 1);
        int most = x.push(fewer, 5);
        due.is("100 items", x.size(most), 100);
        edges.refused("101 items", x, -2, y -> y.push(most, 5));
    }

    // PROMISE 28

    @Edge(promise = 28, says = "IllegalArgumentException: no such HEAP")
    static void leastOfNoHeap() {
        edges.unknownThrows((y, heap) -> y.least(heap), NO_HEAPS);
    }

    @Edge(promise = 28, says = "NoSuchElementException")
    static void leastOfAnEmptyHeap() {
        OrderedMaps x = new OrderedMaps();
        x.heap();
        edges.thrown("a new one", x, NoSuchElementException.class, 0, y -> y.least(0));
        int emptied = x.pop(x.push(0, 1));
        edges.thrown("an emptied one", x, NoSuchElementException.class, 0, y -> y.least(emptied));
        int melded = x.meld(0, emptied);
        edges.thrown("a melded one", x, NoSuchElementException.class, 0, y -> y.least(melded));
    }

    @Edge(promise = 28, says = "The least ITEM")
    static void leastIsOfTheSignedLongs() {
        OrderedMaps x = new OrderedMaps();
        due.is("the least long", x.least(Edges.heapOf(x, 0, MOST, LEAST, -1)), LEAST);
        due.is("-1", x.least(Edges.heapOf(x, 0, MOST, -1)), -1);
        due.is("the most alone", x.least(Edges.heapOf(x, MOST)), MOST);
    }
}
