import java.math.BigInteger;
import java.util.ArrayList;
import java.util.Collections;
import java.util.Comparator;
import java.util.List;
import java.util.Map;
import java.util.NoSuchElementException;
import java.util.TreeMap;

/** The document once more, with the Java library and without a thought of cost, to compare with. */
final class Model {
    private static final class Quotient {
        final long n;
        final long d;
        Long number;

        Quotient(long n, long d) {
            this.n = n;
            this.d = d;
        }
    }

    private static final class Maplet {
        final boolean bits;
        final boolean strict;
        final TreeMap<Long, Quotient> keys;

        Maplet(boolean bits, boolean strict) {
            this.bits = bits;
            this.strict = strict;
            Comparator<Long> order = bits ? Long::compareUnsigned : Comparator.naturalOrder();
            keys = new TreeMap<>(order);
        }

        Maplet copy() {
            Maplet copy = new Maplet(bits, strict);
            copy.keys.putAll(keys);
            return copy;
        }

        boolean isLike(Maplet other) {
            return bits == other.bits && strict == other.strict;
        }
    }

    private static final class Rowlet {
        final List<Long> items = new ArrayList<>();
    }

    private static final class Heaplet {
        final List<Long> items = new ArrayList<>();
    }

    private final List<Object> things = new ArrayList<>();
    private int worked = 0;

    private <T> T known(Class<T> sort, int number) {
        boolean fits = number >= 0 && number < things.size() && sort.isInstance(things.get(number));
        return fits ? sort.cast(things.get(number)) : null;
    }

    private Maplet maplet(int number) {
        return known(Maplet.class, number);
    }

    private Rowlet rowlet(int number) {
        return known(Rowlet.class, number);
    }

    private Heaplet heaplet(int number) {
        return known(Heaplet.class, number);
    }

    private boolean full() {
        return things.size() == 300;
    }

    private int made(Object thing) {
        if (full()) {
            return -4;
        }
        things.add(thing);
        return things.size() - 1;
    }

    private long work(Quotient value) {
        if (value.number == null) {
            worked++;
            if (value.d == 0) {
                throw new ArithmeticException();
            }
            value.number = value.n / value.d;
        }
        return value.number;
    }

    /** 1 a map, 2 a row, 3 a heap, 0 no thing: for who draws calls, the class has no such call. */
    int sortOf(int number) {
        if (known(Object.class, number) == null) return 0;
        return maplet(number) != null ? 1 : rowlet(number) != null ? 2 : 3;
    }

    void clear() {
        things.clear();
    }

    int map(boolean bits, boolean strict) {
        return made(new Maplet(bits, strict));
    }

    int put(int map, long key, long n, long d) {
        Maplet old = maplet(map);
        if (old == null) return -1;
        if (full()) return -4;
        Maplet copy = old.copy();
        Quotient value = new Quotient(n, d);
        copy.keys.put(key, value);
        if (copy.keys.size() > 100) return -2;
        if (old.strict) work(value);
        return made(copy);
    }

    int drop(int map, long key) {
        Maplet old = maplet(map);
        if (old == null) return -1;
        if (full()) return -4;
        Maplet copy = old.copy();
        return copy.keys.remove(key) == null ? -3 : made(copy);
    }

    int union(int a, int b) {
        Maplet first = maplet(a);
        Maplet second = maplet(b);
        if (first == null || second == null) return -1;
        if (!first.isLike(second)) return -3;
        if (full()) return -4;
        Maplet copy = second.copy();
        copy.keys.putAll(first.keys);
        return copy.keys.size() > 100 ? -2 : made(copy);
    }

    int both(int a, int b) {
        Maplet first = maplet(a);
        Maplet second = maplet(b);
        if (first == null || second == null) return -1;
        if (!first.isLike(second)) return -3;
        Maplet copy = first.copy();
        copy.keys.keySet().retainAll(second.keys.keySet());
        return made(copy);
    }

    int less(int a, int b) {
        Maplet first = maplet(a);
        Maplet second = maplet(b);
        if (first == null || second == null) return -1;
        if (!first.isLike(second)) return -3;
        Maplet copy = first.copy();
        for (Long key : second.keys.keySet()) copy.keys.remove(key);
        return made(copy);
    }

    int part(int map, long key, int side) {
        Maplet old = maplet(map);
        if (old == null) return -1;
        if (side != 0 && side != 1) return -2;
        Maplet copy = new Maplet(old.bits, old.strict);
        copy.keys.putAll(side == 0 ? old.keys.headMap(key, false) : old.keys.tailMap(key, false));
        return made(copy);
    }

    int kept(int map, long m, long r) {
        Maplet old = maplet(map);
        if (old == null) return -1;
        if (m < 1) return -2;
        Maplet copy = old.copy();
        copy.keys.keySet().removeIf(key ->
                !BigInteger.valueOf(key).mod(BigInteger.valueOf(m)).equals(BigInteger.valueOf(r)));
        return made(copy);
    }

    boolean has(int map, long key) {
        Maplet old = maplet(map);
        return old != null && old.keys.containsKey(key);
    }

    long get(int map, long key) {
        Maplet old = maplet(map);
        if (old == null) throw new IllegalArgumentException();
        if (!old.keys.containsKey(key)) throw new NoSuchElementException();
        return work(old.keys.get(key));
    }

    long key(int map, int place) {
        Maplet old = maplet(map);
        if (old == null) throw new IllegalArgumentException();
        if (place < 0 || place >= old.keys.size()) throw new IndexOutOfBoundsException();
        return new ArrayList<>(old.keys.keySet()).get(place);
    }

    int rank(int map, long key) {
        Maplet old = maplet(map);
        return old == null ? -1 : old.keys.headMap(key, false).size();
    }

    long fold(int map, long from, long to) {
        Maplet old = maplet(map);
        if (old == null) throw new IllegalArgumentException();
        Comparator<? super Long> order = old.keys.comparator();
        long sum = 0;
        for (Map.Entry<Long, Quotient> each : old.keys.entrySet()) {
            if (order.compare(each.getKey(), from) >= 0 && order.compare(each.getKey(), to) <= 0) {
                sum += work(each.getValue());
            }
        }
        return sum;
    }

    int row() {
        return made(new Rowlet());
    }

    int add(int row, boolean ahead, long item) {
        Rowlet old = rowlet(row);
        if (old == null) return -1;
        if (full()) return -4;
        if (old.items.size() == 100) return -2;
        Rowlet copy = new Rowlet();
        copy.items.addAll(old.items);
        copy.items.add(ahead ? 0 : copy.items.size(), item);
        return made(copy);
    }

    int join(int a, int b) {
        Rowlet first = rowlet(a);
        Rowlet second = rowlet(b);
        if (first == null || second == null) return -1;
        if (full()) return -4;
        Rowlet copy = new Rowlet();
        copy.items.addAll(first.items);
        copy.items.addAll(second.items);
        return copy.items.size() > 100 ? -2 : made(copy);
    }

    int cut(int row, int n, int side) {
        Rowlet old = rowlet(row);
        if (old == null) return -1;
        if (n < 0 || n > old.items.size() || side < 0 || side > 1) return -2;
        Rowlet copy = new Rowlet();
        copy.items.addAll(side == 0 ? old.items.subList(0, n) : old.items.subList(n, old.items.size()));
        return made(copy);
    }

    int replace(int row, int place, long item) {
        Rowlet old = rowlet(row);
        if (old == null) return -1;
        if (place < 0 || place >= old.items.size()) return -2;
        Rowlet copy = new Rowlet();
        copy.items.addAll(old.items);
        copy.items.set(place, item);
        return made(copy);
    }

    int turned(int row) {
        Rowlet old = rowlet(row);
        if (old == null) return -1;
        Rowlet copy = new Rowlet();
        copy.items.addAll(old.items);
        Collections.reverse(copy.items);
        return made(copy);
    }

    long at(int row, int place) {
        Rowlet old = rowlet(row);
        if (old == null) throw new IllegalArgumentException();
        if (place < 0 || place >= old.items.size()) throw new IndexOutOfBoundsException();
        return old.items.get(place);
    }

    int find(int row, int place, long least) {
        Rowlet old = rowlet(row);
        if (old == null) return -1;
        if (place < 0) return -2;
        for (int i = place; i < old.items.size(); i++) {
            if (old.items.get(i) >= least) return i;
        }
        return -3;
    }

    int heap() {
        return made(new Heaplet());
    }

    int push(int heap, long item) {
        Heaplet old = heaplet(heap);
        if (old == null) return -1;
        if (full()) return -4;
        if (old.items.size() == 100) return -2;
        Heaplet copy = new Heaplet();
        copy.items.addAll(old.items);
        copy.items.add(item);
        return made(copy);
    }

    int meld(int a, int b) {
        Heaplet first = heaplet(a);
        Heaplet second = heaplet(b);
        if (first == null || second == null) return -1;
        if (full()) return -4;
        Heaplet copy = new Heaplet();
        copy.items.addAll(first.items);
        copy.items.addAll(second.items);
        return copy.items.size() > 100 ? -2 : made(copy);
    }

    int pop(int heap) {
        Heaplet old = heaplet(heap);
        if (old == null) return -1;
        if (full()) return -4;
        if (old.items.isEmpty()) return -3;
        Heaplet copy = new Heaplet();
        copy.items.addAll(old.items);
        copy.items.remove(Collections.min(copy.items));
        return made(copy);
    }

    long least(int heap) {
        Heaplet old = heaplet(heap);
        if (old == null) throw new IllegalArgumentException();
        if (old.items.isEmpty()) throw new NoSuchElementException();
        return Collections.min(old.items);
    }

    int size(int thing) {
        Object found = known(Object.class, thing);
        if (found == null) return -1;
        if (found instanceof Maplet map) return map.keys.size();
        return found instanceof Rowlet row ? row.items.size() : ((Heaplet) found).items.size();
    }

    int same(int a, int b) {
        Object first = known(Object.class, a);
        Object second = known(Object.class, b);
        if (first == null || second == null) return -1;
        if (first instanceof Maplet one && second instanceof Maplet other) {
            return one.bits == other.bits && one.keys.keySet().equals(other.keys.keySet()) ? 1 : 0;
        }
        if (first instanceof Rowlet one && second instanceof Rowlet other) {
            return one.items.equals(other.items) ? 1 : 0;
        }
        if (first instanceof Heaplet one && second instanceof Heaplet other) {
            return sorted(one.items).equals(sorted(other.items)) ? 1 : 0;
        }
        return 0;
    }

    private static List<Long> sorted(List<Long> items) {
        List<Long> copy = new ArrayList<>(items);
        Collections.sort(copy);
        return copy;
    }

    boolean sound(int thing) {
        return known(Object.class, thing) != null;
    }

    int worked() {
        return worked;
    }

    int told(int what) {
        if (what < 0 || what > 3) return -2;
        Class<?>[] sorts = {Object.class, Maplet.class, Rowlet.class, Heaplet.class};
        return (int) things.stream().filter(sorts[what]::isInstance).count();
    }
}
