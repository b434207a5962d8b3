import java.io.IOException;
import java.lang.reflect.InvocationTargetException;
import java.lang.reflect.Method;
import java.nio.file.Files;
import java.nio.file.Path;
import java.util.ArrayList;
import java.util.Arrays;
import java.util.Comparator;
import java.util.LinkedHashSet;
import java.util.List;
import java.util.Set;
import java.util.regex.Matcher;
import java.util.regex.Pattern;

/** Runs the tests of boundary cases, and has what they share. */
final class Edges {
    static final long LEAST = Long.MIN_VALUE;
    static final long MOST = Long.MAX_VALUE;
    static final int[] NO_NUMBERS = {-1, -2, 299, 300, Integer.MIN_VALUE, Integer.MAX_VALUE};

    private static final Path DOCUMENT = Path.of("../shared/DOC.md");
    private static final Pattern CODE = Pattern.compile("-[1-4]|[A-Z][A-Za-z]*Exception");

    final Due due = new Due();

    interface Call {
        long of(OrderedMaps x);
    }

    interface CallOn {
        long of(OrderedMaps x, int thing);
    }

    /** Every method of the test that is marked as an edge, so that none can be left out. */
    static List<Method> casesOf(Class<?> test) {
        return Arrays.stream(test.getDeclaredMethods())
                .filter(method -> method.isAnnotationPresent(Edge.class))
                .sorted(Comparator.comparing((Method method) -> method.getAnnotation(Edge.class).promise())
                        .thenComparing(Method::getName))
                .toList();
    }

    void runAll(Class<?> test) throws ReflectiveOperationException {
        for (Method each : casesOf(test)) {
            Edge edge = each.getAnnotation(Edge.class);
            int before = due.asked();
            due.under("promise " + edge.promise() + ", " + each.getName() + ": ");
            each.setAccessible(true);
            try {
                each.invoke(null);
            } catch (InvocationTargetException thrown) {
                due.tell("threw " + thrown.getCause());
            }
            if (due.asked() == before) {
                due.tell("asked nothing");
            }
        }
        due.under("");
        due.end();
    }

    /** The document's words under a promise's heading; under 0 all that stands ahead of promise 1. */
    static String wordsOf(int promise) throws IOException {
        String[] parts = Files.readString(DOCUMENT).split("\n## (?=Promise )");
        for (String part : parts) {
            if (part.startsWith("Promise " + promise + ":")) {
                return part;
            }
        }
        return promise == 0 ? parts[0] : "";
    }

    /** What a promise tells behind its call, up to the next heading; of the terms nothing. */
    static String toldOf(int promise) throws IOException {
        String words = wordsOf(promise);
        return promise == 0 ? "" : words.substring(words.indexOf("`:") + 2).split("\n## ")[0];
    }

    /** The codes and exceptions of a promise, in the order in which it tells them. */
    static List<String> codesOf(int promise) throws IOException {
        Matcher found = CODE.matcher(toldOf(promise));
        Set<String> codes = new LinkedHashSet<>();
        while (found.find()) {
            codes.add(found.group());
        }
        return new ArrayList<>(codes);
    }

    /** Numbers that no thing has, in an object with fewer than 299 things, from its own next number on. */
    static int[] unknownTo(OrderedMaps x) {
        int[] numbers = Arrays.copyOf(NO_NUMBERS, NO_NUMBERS.length + 1);
        numbers[NO_NUMBERS.length] = x.told(0);
        return numbers;
    }

    /** A map (0 and 1), a row (2 and 3) and a heap (4 and 5), each without parts and with the part 7. */
    static OrderedMaps oneOfEach() {
        OrderedMaps x = new OrderedMaps();
        x.put(x.map(false, false), 7, 7, 1);
        x.add(x.row(), false, 7);
        x.push(x.heap(), 7);
        return x;
    }

    static int mapOf(OrderedMaps x, boolean bits, boolean strict, long... keys) {
        int map = x.map(bits, strict);
        for (long key : keys) {
            map = x.put(map, key, key, 1);
        }
        return map;
    }

    static int rowOf(OrderedMaps x, long... items) {
        int row = x.row();
        for (long item : items) {
            row = x.add(row, false, item);
        }
        return row;
    }

    static int heapOf(OrderedMaps x, long... items) {
        int heap = x.heap();
        for (long item : items) {
            heap = x.push(heap, item);
        }
        return heap;
    }

    /** A map with so many keys from a first one on. */
    static int mapOfMany(OrderedMaps x, boolean strict, int first, int many) {
        int map = x.map(false, strict);
        for (int i = 0; i < many; i++) {
            map = x.put(map, first + i, first + i, 1);
        }
        return map;
    }

    static int rowOfMany(OrderedMaps x, int many) {
        int row = x.row();
        for (int i = 0; i < many; i++) {
            row = x.add(row, false, i);
        }
        return row;
    }

    static int heapOfMany(OrderedMaps x, int many) {
        int heap = x.heap();
        for (int i = 0; i < many; i++) {
            heap = x.push(heap, i);
        }
        return heap;
    }

    /** Rows until there are so many things. */
    static void fill(OrderedMaps x, int things) {
        for (int i = x.told(0); i < things; i++) {
            x.row();
        }
    }

    void keysAre(OrderedMaps x, int map, long... keys) {
        due.is("size", x.size(map), keys.length);
        for (int i = 0; i < keys.length && i < x.size(map); i++) {
            due.is("key at " + i, x.key(map, i), keys[i]);
        }
        due.is("sound", x.sound(map), true);
    }

    void rowIs(OrderedMaps x, int row, long... items) {
        due.is("size", x.size(row), items.length);
        for (int i = 0; i < items.length && i < x.size(row); i++) {
            due.is("item at " + i, x.at(row, i), items[i]);
        }
        due.is("sound", x.sound(row), true);
    }

    void heapIs(OrderedMaps x, int heap, long... items) {
        int left = heap;
        due.is("size", x.size(heap), items.length);
        for (int i = 0; i < items.length && x.size(left) > 0; i++) {
            due.is("least after " + i, x.least(left), items[i]);
            due.is("sound", x.sound(left), true);
            left = x.pop(left);
        }
        due.is("left", x.size(left), 0);
    }

    private static long[] counts(OrderedMaps x) {
        return new long[] {x.told(0), x.told(1), x.told(2), x.told(3), x.worked()};
    }

    private void countsAre(String call, OrderedMaps x, long[] before, int workedMore) {
        for (int what = 0; what < 4; what++) {
            due.is("told(" + what + ") behind " + call, x.told(what), before[what]);
        }
        due.is("worked() behind " + call, x.worked(), before[4] + workedMore);
    }

    /** The call answers a code, makes no thing and works no value. */
    void refused(String call, OrderedMaps x, long code, Call act) {
        long[] before = counts(x);
        due.is(call, act.of(x), code);
        countsAre(call, x, before, 0);
    }

    /** The call throws, makes no thing, and has worked so many values. */
    void thrown(String call, OrderedMaps x, Class<? extends RuntimeException> want, int workedMore, Call act) {
        long[] before = counts(x);
        due.fails(call, want, () -> act.of(x));
        countsAre(call, x, before, workedMore);
    }

    /** Refused with -1 for every number that no thing has, and for the things of the sorts told. */
    void unknown(CallOn act, int... others) {
        OrderedMaps x = oneOfEach();
        for (int number : unknownTo(x)) {
            refused("unknown " + number, x, -1, y -> act.of(y, number));
        }
        for (int other : others) {
            refused("of another sort " + other, x, -1, y -> act.of(y, other));
        }
    }

    void unknownThrows(CallOn act, int... others) {
        OrderedMaps x = oneOfEach();
        for (int number : unknownTo(x)) {
            thrown("unknown " + number, x, IllegalArgumentException.class, 0, y -> act.of(y, number));
        }
        for (int other : others) {
            thrown("of another sort " + other, x, IllegalArgumentException.class, 0, y -> act.of(y, other));
        }
    }

    /** The call makes the 300th thing, and is refused with -4 behind it. */
    void lastThing(OrderedMaps x, Call act) {
        fill(x, 299);
        due.is("the 300th thing", act.of(x), 299);
        refused("the 301st thing", x, -4, act);
        due.is("the things", x.told(0), 300);
    }
}
