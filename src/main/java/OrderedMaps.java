import java.util.Arrays;
import java.util.NoSuchElementException;

/**
 * Maps, rows and heaps that never change. The calls stand in the order of the document; each looks
 * at its codes and exceptions in the order in which the document tells them.
 */
public final class OrderedMaps {
    public static final int NONE = -1;

    private static final int OUTSIDE = -2;
    private static final int NOT_SO = -3;
    private static final int FULL = -4;

    private static final int MOST_THINGS = 300;
    private static final int MOST_PARTS = 100;
    private static final long SIGN_BIT = 1L << 63;

    private final Thing[] things;
    private int made;
    private int timesWorked;

    public OrderedMaps() {
        things = new Thing[MOST_THINGS];
        made = 0;
        timesWorked = 0;
    }

    public void clear() {
        for (int i = 0; i < things.length; i++) {
            things[i] = null;
        }
        made = 0;
    }

    // MAPS

    public int map(boolean bits, boolean strict) {
        return store(new KeyMap(bits, strict, new Entry[0]));
    }

    public int put(int map, long key, long n, long d) throws ArithmeticException {
        KeyMap old = mapOf(map);
        if (old == null) {
            return NONE;
        }
        if (isFull()) {
            return FULL;
        }
        if (!old.holds(key) && old.count() >= MOST_PARTS) {
            return OUTSIDE;
        }
        Entry entry = new Entry(key, n, d);
        if (old.strict) {
            numberOf(entry);
        }
        return store(old.with(entry));
    }

    public int drop(int map, long key) {
        KeyMap old = mapOf(map);
        if (old == null) {
            return NONE;
        }
        if (isFull()) {
            return FULL;
        }
        if (!old.holds(key)) {
            return NOT_SO;
        }
        return store(old.without(key));
    }

    public int union(int a, int b) {
        KeyMap first = mapOf(a);
        KeyMap second = mapOf(b);
        if (first == null || second == null) {
            return NONE;
        }
        if (!first.isAlike(second)) {
            return NOT_SO;
        }
        if (isFull()) {
            return FULL;
        }
        KeyMap others = second.against(first, false);
        if (first.count() + others.count() > MOST_PARTS) {
            return OUTSIDE;
        }
        return store(first.merged(others));
    }

    public int both(int a, int b) {
        return compared(a, b, true);
    }

    public int less(int a, int b) {
        return compared(a, b, false);
    }

    public int part(int map, long key, int side) {
        KeyMap old = mapOf(map);
        if (old == null) {
            return NONE;
        }
        if (!isSide(side)) {
            return OUTSIDE;
        }
        if (side == 0) {
            return store(old.between(0, old.keysBefore(key)));
        }
        return store(old.between(old.keysUpTo(key), old.count()));
    }

    public int kept(int map, long m, long r) {
        KeyMap old = mapOf(map);
        if (old == null) {
            return NONE;
        }
        if (m < 1) {
            return OUTSIDE;
        }
        boolean[] wanted = new boolean[old.count()];
        for (int i = 0; i < wanted.length; i++) {
            // the keys are longs in both orders, so that one below 0 leaves no less than 0
            wanted[i] = Math.floorMod(old.entries[i].key, m) == r;
        }
        return store(old.picked(wanted));
    }

    public boolean has(int map, long key) {
        KeyMap found = mapOf(map);
        return found != null && found.holds(key);
    }

    public long get(int map, long key)
            throws IllegalArgumentException, NoSuchElementException, ArithmeticException {
        KeyMap found = mapOf(map);
        if (found == null) {
            throw new IllegalArgumentException("no such map");
        }
        Entry entry = found.entryOf(key);
        if (entry == null) {
            throw new NoSuchElementException("the map has not the key");
        }
        return numberOf(entry);
    }

    public long key(int map, int place) throws IllegalArgumentException, IndexOutOfBoundsException {
        KeyMap found = mapOf(map);
        if (found == null) {
            throw new IllegalArgumentException("no such map");
        }
        if (place < 0 || place >= found.count()) {
            throw new IndexOutOfBoundsException("the map has no such place");
        }
        return found.entries[place].key;
    }

    public int rank(int map, long key) {
        KeyMap found = mapOf(map);
        return found == null ? NONE : found.keysBefore(key);
    }

    public long fold(int map, long from, long to)
            throws IllegalArgumentException, ArithmeticException {
        KeyMap found = mapOf(map);
        if (found == null) {
            throw new IllegalArgumentException("no such map");
        }
        int end = found.keysUpTo(to);
        long sum = 0;
        for (int place = found.keysBefore(from); place < end; place++) {
            sum += numberOf(found.entries[place]);
        }
        return sum;
    }

    // ROWS

    public int row() {
        return store(new Row(new long[0]));
    }

    public int add(int row, boolean ahead, long item) {
        Row old = rowOf(row);
        if (old == null) {
            return NONE;
        }
        if (isFull()) {
            return FULL;
        }
        if (old.count() >= MOST_PARTS) {
            return OUTSIDE;
        }
        return store(new Row(old.itemsWith(ahead ? 0 : old.count(), item)));
    }

    public int join(int a, int b) {
        Row first = rowOf(a);
        Row second = rowOf(b);
        if (first == null || second == null) {
            return NONE;
        }
        if (isFull()) {
            return FULL;
        }
        if (first.count() + second.count() > MOST_PARTS) {
            return OUTSIDE;
        }
        return store(first.followedBy(second));
    }

    public int cut(int row, int n, int side) {
        Row old = rowOf(row);
        if (old == null) {
            return NONE;
        }
        if (n < 0 || n > old.count() || !isSide(side)) {
            return OUTSIDE;
        }
        if (side == 0) {
            return store(new Row(Arrays.copyOfRange(old.items, 0, n)));
        }
        return store(new Row(Arrays.copyOfRange(old.items, n, old.count())));
    }

    public int replace(int row, int place, long item) {
        Row old = rowOf(row);
        if (old == null) {
            return NONE;
        }
        if (place < 0 || place >= old.count()) {
            return OUTSIDE;
        }
        long[] items = Arrays.copyOf(old.items, old.count());
        items[place] = item;
        return store(new Row(items));
    }

    public int turned(int row) {
        Row old = rowOf(row);
        return old == null ? NONE : store(old.reversed());
    }

    public long at(int row, int place) throws IllegalArgumentException, IndexOutOfBoundsException {
        Row found = rowOf(row);
        if (found == null) {
            throw new IllegalArgumentException("no such row");
        }
        if (place < 0 || place >= found.count()) {
            throw new IndexOutOfBoundsException("the row has no such place");
        }
        return found.items[place];
    }

    public int find(int row, int place, long least) {
        Row found = rowOf(row);
        if (found == null) {
            return NONE;
        }
        if (place < 0) {
            return OUTSIDE;
        }
        for (int i = place; i < found.items.length; i++) {
            if (found.items[i] >= least) {
                return i;
            }
        }
        return NOT_SO;
    }

    // HEAPS

    public int heap() {
        return store(new Heap(new long[0]));
    }

    public int push(int heap, long item) {
        Heap old = heapOf(heap);
        if (old == null) {
            return NONE;
        }
        if (isFull()) {
            return FULL;
        }
        if (old.count() >= MOST_PARTS) {
            return OUTSIDE;
        }
        return store(new Heap(old.itemsWith(old.itemsBelow(item), item)));
    }

    public int meld(int a, int b) {
        Heap first = heapOf(a);
        Heap second = heapOf(b);
        if (first == null || second == null) {
            return NONE;
        }
        if (isFull()) {
            return FULL;
        }
        if (first.count() + second.count() > MOST_PARTS) {
            return OUTSIDE;
        }
        return store(first.mixedWith(second));
    }

    public int pop(int heap) {
        Heap old = heapOf(heap);
        if (old == null) {
            return NONE;
        }
        if (isFull()) {
            return FULL;
        }
        if (old.count() == 0) {
            return NOT_SO;
        }
        return store(new Heap(Arrays.copyOfRange(old.items, 1, old.count())));
    }

    public long least(int heap) throws IllegalArgumentException, NoSuchElementException {
        Heap found = heapOf(heap);
        if (found == null) {
            throw new IllegalArgumentException("no such heap");
        }
        if (found.count() == 0) {
            throw new NoSuchElementException("the heap has no items");
        }
        return found.items[0];
    }

    // ALL

    public int size(int thing) {
        Thing found = thingOf(thing);
        return found == null ? NONE : found.count();
    }

    public int same(int a, int b) {
        Thing first = thingOf(a);
        Thing second = thingOf(b);
        if (first == null || second == null) {
            return NONE;
        }
        return first.isWhatIs(second) ? 1 : 0;
    }

    public boolean sound(int thing) {
        Thing found = thingOf(thing);
        return found != null && found.count() <= MOST_PARTS && found.keepsRules();
    }

    public int worked() {
        return timesWorked;
    }

    public int told(int what) {
        if (what < 0 || what > 3) {
            return OUTSIDE;
        }
        int fitting = 0;
        for (int i = 0; i < made; i++) {
            if (what == 0 || what == sortOf(i)) {
                fitting++;
            }
        }
        return fitting;
    }

    // WHAT THE CALLS SHARE

    private Thing thingOf(int number) {
        return number >= 0 && number < made ? things[number] : null;
    }

    private KeyMap mapOf(int number) {
        return thingOf(number) instanceof KeyMap found ? found : null;
    }

    private Row rowOf(int number) {
        return thingOf(number) instanceof Row found ? found : null;
    }

    private Heap heapOf(int number) {
        return thingOf(number) instanceof Heap found ? found : null;
    }

    /** The number by which told() asks for a thing's sort. */
    private int sortOf(int number) {
        if (mapOf(number) != null) {
            return 1;
        }
        return rowOf(number) != null ? 2 : 3;
    }

    private boolean isFull() {
        return made >= things.length;
    }

    private static boolean isSide(int side) {
        return side == 0 || side == 1;
    }

    /** Tells -4 itself, as most calls tell it last; a call that tells more behind it looks first. */
    private int store(Thing thing) {
        if (isFull()) {
            return FULL;
        }
        things[made] = thing;
        made++;
        return made - 1;
    }

    /** both() and less(): the keys of a that b has (wanted), or has not. */
    private int compared(int a, int b, boolean wanted) {
        KeyMap first = mapOf(a);
        KeyMap second = mapOf(b);
        if (first == null || second == null) {
            return NONE;
        }
        if (!first.isAlike(second)) {
            return NOT_SO;
        }
        return store(first.against(second, wanted));
    }

    /** Every need of a value comes through here, so that no number is worked twice or uncounted. */
    private long numberOf(Entry entry) throws ArithmeticException {
        if (entry.known) {
            return entry.number;
        }
        timesWorked++;
        if (entry.d == 0) {
            throw new ArithmeticException("the value fails");
        }
        entry.number = entry.n / entry.d;
        entry.known = true;
        return entry.number;
    }

    private abstract static class Thing {
        abstract int count();

        abstract boolean isWhatIs(Thing other);

        abstract boolean keepsRules();
    }

    /**
     * A key and its value in one, as a value never goes to another key: all maps that have the
     * value have this very object, so that a number worked for one of them is known to all.
     */
    private static final class Entry {
        final long key;
        final long n;
        final long d;
        boolean known;
        long number;

        Entry(long key, long n, long d) {
            this.key = key;
            this.n = n;
            this.d = d;
        }
    }

    /** The entries stand by the map's order, so that a place of the order is an index. */
    private static final class KeyMap extends Thing {
        final boolean bits;
        final boolean strict;
        final Entry[] entries;

        KeyMap(boolean bits, boolean strict, Entry[] entries) {
            this.bits = bits;
            this.strict = strict;
            this.entries = entries;
        }

        int count() {
            return entries.length;
        }

        boolean isWhatIs(Thing other) {
            if (!(other instanceof KeyMap map) || map.bits != bits || map.count() != count()) {
                return false;
            }
            for (int i = 0; i < entries.length; i++) {
                if (entries[i].key != map.entries[i].key) {
                    return false;
                }
            }
            return true;
        }

        boolean keepsRules() {
            for (int i = 0; i < entries.length; i++) {
                if (entries[i] == null || strict && !entries[i].known) {
                    return false;
                }
                if (i > 0 && !isBefore(entries[i - 1].key, entries[i].key)) {
                    return false;
                }
            }
            return true;
        }

        boolean isAlike(KeyMap other) {
            return bits == other.bits && strict == other.strict;
        }

        /** With the sign bit turned, longs without sign have the signed order. */
        boolean isBefore(long a, long b) {
            return bits ? (a ^ SIGN_BIT) < (b ^ SIGN_BIT) : a < b;
        }

        int keysBefore(long key) {
            int low = 0;
            int high = entries.length;
            while (low < high) {
                int middle = (low + high) / 2;
                if (isBefore(entries[middle].key, key)) {
                    low = middle + 1;
                } else {
                    high = middle;
                }
            }
            return low;
        }

        int keysUpTo(long key) {
            return keysBefore(key) + (holds(key) ? 1 : 0);
        }

        boolean holds(long key) {
            return entryOf(key) != null;
        }

        Entry entryOf(long key) {
            int place = keysBefore(key);
            return place < entries.length && entries[place].key == key ? entries[place] : null;
        }

        KeyMap with(Entry entry) {
            int before = keysBefore(entry.key);
            int upTo = keysUpTo(entry.key);
            Entry[] all = new Entry[before + 1 + entries.length - upTo];
            for (int i = 0; i < before; i++) {
                all[i] = entries[i];
            }
            all[before] = entry;
            for (int i = upTo; i < entries.length; i++) {
                all[before + 1 + i - upTo] = entries[i];
            }
            return new KeyMap(bits, strict, all);
        }

        KeyMap without(long key) {
            boolean[] wanted = new boolean[entries.length];
            for (int i = 0; i < wanted.length; i++) {
                wanted[i] = entries[i].key != key;
            }
            return picked(wanted);
        }

        KeyMap against(KeyMap other, boolean held) {
            boolean[] wanted = new boolean[entries.length];
            for (int i = 0; i < wanted.length; i++) {
                wanted[i] = other.holds(entries[i].key) == held;
            }
            return picked(wanted);
        }

        KeyMap between(int from, int to) {
            boolean[] wanted = new boolean[entries.length];
            for (int i = 0; i < wanted.length; i++) {
                wanted[i] = i >= from && i < to;
            }
            return picked(wanted);
        }

        KeyMap picked(boolean[] wanted) {
            int fitting = 0;
            for (int i = 0; i < wanted.length; i++) {
                fitting += wanted[i] ? 1 : 0;
            }
            Entry[] some = new Entry[fitting];
            int next = 0;
            for (int i = 0; i < wanted.length; i++) {
                if (wanted[i]) {
                    some[next] = entries[i];
                    next++;
                }
            }
            return new KeyMap(bits, strict, some);
        }

        /** The two have no key in common, as union() leaves those of the second map out first. */
        KeyMap merged(KeyMap others) {
            Entry[] all = new Entry[count() + others.count()];
            int mine = 0;
            int theirs = 0;
            for (int i = 0; i < all.length; i++) {
                if (mine < count() && (theirs >= others.count()
                        || isBefore(entries[mine].key, others.entries[theirs].key))) {
                    all[i] = entries[mine];
                    mine++;
                } else if (theirs < others.count()) {
                    all[i] = others.entries[theirs];
                    theirs++;
                }
            }
            return new KeyMap(bits, strict, all);
        }
    }

    private abstract static class Items extends Thing {
        final long[] items;

        Items(long[] items) {
            this.items = items;
        }

        int count() {
            return items.length;
        }

        boolean hasItemsOf(Items other) {
            if (items.length != other.items.length) {
                return false;
            }
            for (int i = 0; i < items.length; i++) {
                if (items[i] != other.items[i]) {
                    return false;
                }
            }
            return true;
        }

        /** The place is from 0 to how many there are. */
        long[] itemsWith(int place, long item) {
            long[] all = new long[items.length + 1];
            System.arraycopy(items, 0, all, 0, place);
            all[place] = item;
            System.arraycopy(items, place, all, place + 1, items.length - place);
            return all;
        }
    }

    private static final class Row extends Items {
        Row(long[] items) {
            super(items);
        }

        boolean isWhatIs(Thing other) {
            return other instanceof Row row && hasItemsOf(row);
        }

        /** A row has no rule of its own beside how many items there may be. */
        boolean keepsRules() {
            return true;
        }

        Row followedBy(Row other) {
            long[] all = Arrays.copyOf(items, items.length + other.items.length);
            System.arraycopy(other.items, 0, all, items.length, other.items.length);
            return new Row(all);
        }

        Row reversed() {
            long[] all = new long[items.length];
            for (int i = 0; i < all.length; i++) {
                all[i] = items[items.length - 1 - i];
            }
            return new Row(all);
        }
    }

    /** The items stand in ascending order, so that heaps with the same items are alike in all places. */
    private static final class Heap extends Items {
        Heap(long[] items) {
            super(items);
        }

        boolean isWhatIs(Thing other) {
            return other instanceof Heap heap && hasItemsOf(heap);
        }

        boolean keepsRules() {
            for (int i = 1; i < items.length; i++) {
                if (items[i - 1] > items[i]) {
                    return false;
                }
            }
            return true;
        }

        int itemsBelow(long item) {
            int below = 0;
            while (below < items.length && items[below] < item) {
                below++;
            }
            return below;
        }

        Heap mixedWith(Heap other) {
            long[] all = new long[items.length + other.items.length];
            int mine = 0;
            int theirs = 0;
            for (int i = 0; i < all.length; i++) {
                if (mine < items.length && (theirs >= other.items.length
                        || items[mine] <= other.items[theirs])) {
                    all[i] = items[mine];
                    mine++;
                } else if (theirs < other.items.length) {
                    all[i] = other.items[theirs];
                    theirs++;
                }
            }
            return new Heap(all);
        }
    }
}
