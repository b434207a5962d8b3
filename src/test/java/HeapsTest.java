import java.util.NoSuchElementException;

/** Promises 24 to 28: heaps. */
public final class HeapsTest {
    private static final long LEAST = Long.MIN_VALUE;
    private static final long MOST = Long.MAX_VALUE;
    private static final Due due = new Due();

    public static void main(String[] args) {
        heap();
        push();
        meld();
        upToTheLimit();
        pop();
        least();
        oldHeapsStay();
        otherThings();
        due.end();
    }

    private static int heapOf(OrderedMaps x, long... items) {
        int heap = x.heap();
        for (long item : items) {
            heap = x.push(heap, item);
        }
        return heap;
    }

    /** Pops all items, so that their order is seen too. */
    private static void itemsAre(String what, OrderedMaps x, int heap, long... items) {
        int left = heap;
        due.is(what + ": size", x.size(heap), items.length);
        for (int i = 0; i < items.length && x.size(left) > 0; i++) {
            due.is(what + ": sound", x.sound(left), true);
            due.is(what + ": least after " + i, x.least(left), items[i]);
            left = x.pop(left);
        }
        due.is(what + ": none left", x.size(left), 0);
        due.is(what + ": nothing to pop", x.pop(left), -3);
    }

    private static void heap() {
        OrderedMaps x = new OrderedMaps();
        due.is("heap", x.heap(), 0);
        due.is("heap", x.heap(), 1);
        due.is("heaps told", x.told(3), 2);
        itemsAre("heap", x, 1);
    }

    private static void push() {
        OrderedMaps x = new OrderedMaps();
        x.heap();
        due.is("push", x.push(0, 4), 1);
        due.is("push", x.push(1, 4), 2);
        itemsAre("twice", x, 2, 4, 4);
        itemsAre("ascending", x, heapOf(x, -1, 0, 1), -1, 0, 1);
        itemsAre("descending", x, heapOf(x, 1, 0, -1), -1, 0, 1);
        itemsAre("mixed", x, heapOf(x, 5, MOST, LEAST, 5, 0, LEAST, -7), LEAST, LEAST, -7, 0, 5, 5, MOST);
    }

    private static void meld() {
        OrderedMaps x = new OrderedMaps();
        int a = heapOf(x, 5, 1, 3);
        int b = heapOf(x, 3, 9, -2, 4);
        itemsAre("a, b", x, x.meld(a, b), -2, 1, 3, 3, 4, 5, 9);
        itemsAre("b, a", x, x.meld(b, a), -2, 1, 3, 3, 4, 5, 9);
        itemsAre("a, a", x, x.meld(a, a), 1, 1, 3, 3, 5, 5);
        itemsAre("a, none", x, x.meld(a, 0), 1, 3, 5);
        itemsAre("none, a", x, x.meld(0, a), 1, 3, 5);
        itemsAre("none, none", x, x.meld(0, 0));
    }

    private static void upToTheLimit() {
        OrderedMaps x = new OrderedMaps();
        int five = heapOf(x, 5, 4, 3, 2, 1);
        int twenty = x.meld(x.meld(five, five), x.meld(five, five));
        int forty = x.meld(twenty, twenty);
        int most = x.meld(x.meld(forty, forty), twenty);
        due.is("100 items", x.size(most), 100);
        due.is("sound", x.sound(most), true);
        int one = heapOf(x, 1);
        int things = x.told(0);
        due.is("push", x.push(most, 1), -2);
        due.is("meld of 101", x.meld(most, one), -2);
        due.is("meld of 101", x.meld(one, most), -2);
        due.is("meld of 200", x.meld(most, most), -2);
        due.is("no thing was made", x.told(0), things);
        due.is("meld of 100", x.size(x.meld(most, 0)), 100);
        int fewer = x.pop(most);
        due.is("99 items", x.size(fewer), 99);
        due.is("room again", x.size(x.push(fewer, 7)), 100);
    }

    private static void pop() {
        OrderedMaps x = new OrderedMaps();
        int h = heapOf(x, 2, 2, 1);
        due.is("pop", x.pop(h), 4);
        due.is("two are left", x.size(4), 2);
        due.is("the least goes once", x.least(x.pop(4)), 2);
        due.is("none", x.pop(0), -3);
        due.is("no thing was made", x.told(0), 6);
    }

    private static void least() {
        OrderedMaps x = new OrderedMaps();
        due.is("of three", x.least(heapOf(x, 2, -9, 4)), -9);
        due.is("the least long", x.least(heapOf(x, MOST, LEAST)), LEAST);
        due.fails("none", NoSuchElementException.class, () -> x.least(0));
        due.fails("unknown", IllegalArgumentException.class, () -> x.least(99));
        due.fails("below", IllegalArgumentException.class, () -> x.least(-1));
        int row = x.add(x.row(), true, 1);
        due.fails("a row", IllegalArgumentException.class, () -> x.least(row));
    }

    private static void oldHeapsStay() {
        OrderedMaps x = new OrderedMaps();
        int h = heapOf(x, 6, 2, 4);
        x.push(h, 1);
        x.push(h, 9);
        x.pop(h);
        x.meld(h, h);
        x.meld(x.push(h, 3), h);
        itemsAre("the old heap", x, h, 2, 4, 6);
        itemsAre("the older heap", x, h - 1, 2, 6);
    }

    private static void otherThings() {
        OrderedMaps x = new OrderedMaps();
        int heap = x.heap();
        int map = x.map(false, false);
        int row = x.row();
        for (int other : new int[] {map, row, 3, -1, Integer.MIN_VALUE, Integer.MAX_VALUE}) {
            due.is("push", x.push(other, 1), -1);
            due.is("meld", x.meld(heap, other), -1);
            due.is("meld", x.meld(other, heap), -1);
            due.is("pop", x.pop(other), -1);
            due.fails("least", IllegalArgumentException.class, () -> x.least(other));
        }
        due.is("no thing was made", x.told(0), 3);
    }
}
