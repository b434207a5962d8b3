import java.lang.reflect.Array;
import java.lang.reflect.Field;

/** Promise 31: no run of calls breaks a rule, so this test breaks one from outside and asks sound(). */
public final class SoundTest {
    private static final String RULES = "Whether the rules by which a THING is kept hold within it";
    private static final Edges edges = new Edges();
    private static final Due due = edges.due;

    public static void main(String[] args) throws ReflectiveOperationException {
        edges.runAll(SoundTest.class);
    }

    private static Object thing(OrderedMaps x, int number) throws ReflectiveOperationException {
        return Array.get(field(x, "things").get(x), number);
    }

    private static Field field(Object of, String name) throws ReflectiveOperationException {
        for (Class<?> each = of.getClass(); each != null; each = each.getSuperclass()) {
            for (Field field : each.getDeclaredFields()) {
                if (field.getName().equals(name)) {
                    field.setAccessible(true);
                    return field;
                }
            }
        }
        throw new NoSuchFieldException(name);
    }

    private static Object part(OrderedMaps x, int number, String name) throws ReflectiveOperationException {
        Object thing = thing(x, number);
        return field(thing, name).get(thing);
    }

    private static void swap(Object array, int i, int j) {
        Object kept = Array.get(array, i);
        Array.set(array, i, Array.get(array, j));
        Array.set(array, j, kept);
    }

    private static int mapOfThree(OrderedMaps x, boolean bits, boolean strict) {
        return x.put(x.put(x.put(x.map(bits, strict), 1, 1, 1), -2, 1, 1), 3, 1, 1);
    }

    @Edge(promise = 31, says = RULES)
    static void keysOutOfOrder() throws ReflectiveOperationException {
        for (boolean bits : new boolean[] {false, true}) {
            for (int place = 0; place < 2; place++) {
                OrderedMaps x = new OrderedMaps();
                int map = mapOfThree(x, bits, false);
                due.is("in order", x.sound(map), true);
                swap(part(x, map, "entries"), place, place + 1);
                due.is("out of order", x.sound(map), false);
                due.is("another map", x.sound(map - 1), true);
            }
        }
    }

    @Edge(promise = 31, says = RULES)
    static void aKeyTwice() throws ReflectiveOperationException {
        OrderedMaps x = new OrderedMaps();
        int map = mapOfThree(x, false, false);
        Object entries = part(x, map, "entries");
        Array.set(entries, 1, Array.get(entries, 0));
        due.is("a key twice", x.sound(map), false);
    }

    @Edge(promise = 31, says = RULES)
    static void aKeyMissing() throws ReflectiveOperationException {
        OrderedMaps x = new OrderedMaps();
        int map = mapOfThree(x, false, false);
        Array.set(part(x, map, "entries"), 2, null);
        due.is("a key missing", x.sound(map), false);
    }

    @Edge(promise = 31, says = RULES)
    static void aStrictValueUnworked() throws ReflectiveOperationException {
        for (int place = 0; place < 3; place++) {
            OrderedMaps x = new OrderedMaps();
            int map = mapOfThree(x, false, true);
            due.is("worked", x.sound(map), true);
            Object entry = Array.get(part(x, map, "entries"), place);
            field(entry, "known").set(entry, false);
            due.is("unworked", x.sound(map), false);
        }
    }

    @Edge(promise = 31, says = RULES)
    static void heapOutOfOrder() throws ReflectiveOperationException {
        for (int place = 0; place < 2; place++) {
            OrderedMaps x = new OrderedMaps();
            int heap = x.push(x.push(x.push(x.heap(), 1), 2), 3);
            due.is("in order", x.sound(heap), true);
            swap(part(x, heap, "items"), place, place + 1);
            due.is("out of order", x.sound(heap), false);
        }
    }

    @Edge(promise = 31, says = RULES)
    static void tooMany() throws ReflectiveOperationException {
        OrderedMaps x = new OrderedMaps();
        int row = x.row();
        field(thing(x, row), "items").set(thing(x, row), new long[100]);
        due.is("100 items", x.sound(row), true);
        field(thing(x, row), "items").set(thing(x, row), new long[101]);
        due.is("101 items", x.sound(row), false);
    }
}
