import java.io.IOException;
import java.util.ArrayList;
import java.util.Arrays;
import java.util.LinkedHashSet;
import java.util.List;
import java.util.Set;

/**
 * "Of the codes and exceptions that a call tells, in the order in which it tells them, the first that
 * fits comes; then no THING is made": each call with every set of its faults at once. The order is read
 * from the document, so that this test knows of each call only how its faults are brought about.
 */
public final class FirstCodeTest {
    private static final Due due = new Due();
    private static final String FAILS = "ArithmeticException";
    private static final String NO_PLACE = "IndexOutOfBoundsException";
    private static final String NO_ELEMENT = "NoSuchElementException";

    private static final int MAP = 1;
    private static final int ROW = 2;
    private static final int HEAP = 3;

    /** An object with a thing for each fault; with 300 things, if -4 is to fit. */
    private static final class World {
        final OrderedMaps x = new OrderedMaps();
        final int fullMap = Edges.mapOfMany(x, true, 0, 100);
        final int map = Edges.mapOf(x, false, true, 777);
        final int otherMap = Edges.mapOf(x, false, true, 888);
        final int lazyMap = x.put(x.map(false, false), 777, 1, 0);
        final int row = Edges.rowOf(x, 5);
        final int fullRow = joined();
        final int noItems = x.heap();
        final int heap = Edges.heapOf(x, 5);
        final int fullHeap = melded();
        final Set<String> faults;
        /** What is given for a thing, if -1 or its exception is to fit. */
        final int unknown;

        World(Set<String> faults, int unknown) {
            this.faults = faults;
            this.unknown = unknown;
            if (has("-4")) {
                Edges.fill(x, 300);
            }
        }

        boolean has(String fault) {
            return faults.contains(fault);
        }

        int known(int thing) {
            return has("-1") || has("IllegalArgumentException") ? unknown : thing;
        }

        private int joined() {
            int row10 = Edges.rowOfMany(x, 10);
            int all = x.row();
            for (int i = 0; i < 10; i++) {
                all = x.join(all, row10);
            }
            return all;
        }

        private int melded() {
            int heap10 = Edges.heapOfMany(x, 10);
            int all = x.heap();
            for (int i = 0; i < 10; i++) {
                all = x.meld(all, heap10);
            }
            return all;
        }
    }

    private interface Act {
        long of(World w);
    }

    public static void main(String[] args) throws IOException {
        Set<Integer> looked = new LinkedHashSet<>();
        maps(looked);
        rows(looked);
        heaps(looked);
        all(looked);
        for (int promise = 3; promise <= 33; promise++) {
            due.is("promise " + promise + " is looked at, if it tells codes", looked.contains(promise),
                    !Edges.codesOf(promise).isEmpty());
        }
        due.end();
    }

    private static void maps(Set<Integer> looked) throws IOException {
        each(looked, 3, MAP, w -> w.x.map(false, false));
        each(looked, 4, MAP, w -> w.x.put(w.known(w.has("-2") ? w.fullMap : w.map), 555, 1, w.has(FAILS) ? 0 : 1));
        each(looked, 5, MAP, w -> w.x.drop(w.known(w.map), w.has("-3") ? 5 : 777));
        each(looked, 6, MAP, w -> w.x.union(w.known(w.has("-2") ? w.fullMap : w.map), second(w)));
        each(looked, 6, MAP, w -> w.x.union(w.has("-2") ? w.fullMap : w.map, w.known(second(w))));
        each(looked, 7, MAP, w -> w.x.both(w.known(w.map), second(w)));
        each(looked, 7, MAP, w -> w.x.both(w.map, w.known(second(w))));
        each(looked, 8, MAP, w -> w.x.less(w.known(w.map), second(w)));
        each(looked, 8, MAP, w -> w.x.less(w.map, w.known(second(w))));
        each(looked, 9, MAP, w -> w.x.part(w.known(w.map), 5, w.has("-2") ? -1 : 0));
        each(looked, 9, MAP, w -> w.x.part(w.known(w.map), 5, w.has("-2") ? 2 : 1));
        each(looked, 10, MAP, w -> w.x.kept(w.known(w.map), w.has("-2") ? 0 : 1, 0));
        each(looked, 12, MAP, w -> w.x.get(w.known(w.has(FAILS) ? w.lazyMap : w.map), w.has(NO_ELEMENT) ? 5 : 777));
        each(looked, 13, MAP, w -> w.x.key(w.known(w.map), w.has(NO_PLACE) ? 1 : 0));
        each(looked, 13, MAP, w -> w.x.key(w.known(w.map), w.has(NO_PLACE) ? -1 : 0));
        each(looked, 14, MAP, w -> w.x.rank(w.known(w.map), 5));
        each(looked, 15, MAP, w -> w.x.fold(w.known(w.has(FAILS) ? w.lazyMap : w.map), 0, 1000));
    }

    private static int second(World w) {
        return w.has("-3") ? w.lazyMap : w.otherMap;
    }

    private static void rows(Set<Integer> looked) throws IOException {
        each(looked, 16, ROW, w -> w.x.row());
        each(looked, 17, ROW, w -> w.x.add(w.known(w.has("-2") ? w.fullRow : w.row), true, 1));
        each(looked, 17, ROW, w -> w.x.add(w.known(w.has("-2") ? w.fullRow : w.row), false, 1));
        each(looked, 18, ROW, w -> w.x.join(w.known(w.row), w.has("-2") ? w.fullRow : w.row));
        each(looked, 18, ROW, w -> w.x.join(w.has("-2") ? w.fullRow : w.row, w.known(w.row)));
        each(looked, 19, ROW, w -> w.x.cut(w.known(w.row), w.has("-2") ? -1 : 0, 0));
        each(looked, 19, ROW, w -> w.x.cut(w.known(w.row), w.has("-2") ? 2 : 1, 1));
        each(looked, 19, ROW, w -> w.x.cut(w.known(w.row), 1, w.has("-2") ? 2 : 1));
        each(looked, 20, ROW, w -> w.x.replace(w.known(w.row), w.has("-2") ? -1 : 0, 1));
        each(looked, 20, ROW, w -> w.x.replace(w.known(w.row), w.has("-2") ? 1 : 0, 1));
        each(looked, 21, ROW, w -> w.x.turned(w.known(w.row)));
        each(looked, 22, ROW, w -> w.x.at(w.known(w.row), w.has(NO_PLACE) ? 1 : 0));
        each(looked, 22, ROW, w -> w.x.at(w.known(w.row), w.has(NO_PLACE) ? -1 : 0));
        each(looked, 23, ROW, w -> w.x.find(w.known(w.row), w.has("-2") ? -1 : 0, w.has("-3") ? 6 : 5));
    }

    private static void heaps(Set<Integer> looked) throws IOException {
        each(looked, 24, HEAP, w -> w.x.heap());
        each(looked, 25, HEAP, w -> w.x.push(w.known(w.has("-2") ? w.fullHeap : w.heap), 1));
        each(looked, 26, HEAP, w -> w.x.meld(w.known(w.heap), w.has("-2") ? w.fullHeap : w.heap));
        each(looked, 26, HEAP, w -> w.x.meld(w.has("-2") ? w.fullHeap : w.heap, w.known(w.heap)));
        each(looked, 27, HEAP, w -> w.x.pop(w.known(w.has("-3") ? w.noItems : w.heap)));
        each(looked, 28, HEAP, w -> w.x.least(w.known(w.has(NO_ELEMENT) ? w.noItems : w.heap)));
    }

    private static void all(Set<Integer> looked) throws IOException {
        each(looked, 29, 0, w -> w.x.size(w.known(w.map)));
        each(looked, 30, 0, w -> w.x.same(w.known(w.map), w.row));
        each(looked, 30, 0, w -> w.x.same(w.row, w.known(w.map)));
        each(looked, 33, 0, w -> w.x.told(w.has("-2") ? 4 : 3));
        each(looked, 33, 0, w -> w.x.told(w.has("-2") ? -1 : 0));
    }

    /** Numbers without a thing and, for a call that tells a sort, things of the other two. */
    private static List<Integer> unknownTo(int sort) {
        World w = new World(Set.of(), 0);
        List<Integer> numbers = new ArrayList<>(Arrays.asList(-1, 300, Integer.MIN_VALUE, Integer.MAX_VALUE));
        int[] things = {w.map, w.row, w.heap};
        for (int each = MAP; each <= HEAP; each++) {
            if (sort != 0 && sort != each) {
                numbers.add(things[each - 1]);
            }
        }
        return numbers;
    }

    /** The call with each set of the codes that the document tells of it, the empty one too. */
    private static void each(Set<Integer> looked, int promise, int sort, Act act) throws IOException {
        looked.add(promise);
        List<String> codes = Edges.codesOf(promise);
        for (int unknown : unknownTo(sort)) {
            for (int set = 0; set < 1 << codes.size(); set++) {
                Set<String> faults = new LinkedHashSet<>();
                for (int i = 0; i < codes.size(); i++) {
                    if ((set >> i & 1) == 1) {
                        faults.add(codes.get(i));
                    }
                }
                String first = faults.isEmpty() ? "" : faults.iterator().next();
                String call = "promise " + promise + " with " + faults + ", unknown is " + unknown;
                one(call, first, new World(faults, unknown), act);
            }
        }
    }

    private static void one(String call, String first, World w, Act act) {
        int things = w.x.told(0);
        int worked = w.x.worked();
        String got = answer(w, act);
        boolean isRefused = got.endsWith("Exception") || got.startsWith("-");
        if (first.isEmpty() ? isRefused : !got.equals(first)) {
            due.tell(call + " answered " + got + ", due is " + (first.isEmpty() ? "no code" : first));
        }
        if (!first.isEmpty()) {
            due.is("things behind " + call, w.x.told(0), things);
            due.is("worked behind " + call, w.x.worked(), worked + (first.equals(FAILS) ? 1 : 0));
        }
    }

    private static String answer(World w, Act act) {
        try {
            return "" + act.of(w);
        } catch (RuntimeException thrown) {
            return (Due.isThrownByTheClass(thrown) ? "" : "the machine's ") + thrown.getClass().getSimpleName();
        }
    }
}
