import java.lang.reflect.InvocationTargetException;
import java.lang.reflect.Method;
import java.lang.reflect.Modifier;
import java.util.HashMap;
import java.util.List;
import java.util.Map;
import java.util.Random;

/** Runs of 512 calls (as many as the document allows) whose answers are compared with the model's. */
public final class RandomRunsTest {
    private static final int RUNS = 4000;
    private static final int CALLS = 512;
    /** How often each code and exception has to be met, for the runs to show that it is told where it is due. */
    private static final int OFTEN = 20;
    private static final String[] NAMES = {"map", "put", "drop", "union", "both", "less", "part", "kept", "has",
        "get", "key", "rank", "fold", "row", "add", "join", "cut", "replace", "turned", "at", "find", "heap",
        "push", "meld", "pop", "least", "size", "same", "sound", "worked", "told", "clear"};
    private static final long[] EDGES = {0, 1, -1, 2, -2, Long.MIN_VALUE, Long.MAX_VALUE, Long.MIN_VALUE + 1,
        Long.MAX_VALUE - 1, 1L << 32, -(1L << 32)};

    /** What a call is made with; it is drawn once, so that the class and the model get the same. */
    private static final class Call {
        String name;
        int a;
        int b;
        int n;
        int side;
        long key;
        long p;
        long q;
        boolean yes;
        boolean also;

        @Override
        public String toString() {
            return name + " a=" + a + " b=" + b + " n=" + n + " side=" + side + " key=" + key + " p=" + p
                    + " q=" + q + " yes=" + yes + " also=" + also;
        }
    }

    private static final String[] DUE_CODES = {"map -4", "put -1", "put -4", "put -2",
        "put java.lang.ArithmeticException", "drop -1", "drop -4", "drop -3", "union -1", "union -3", "union -4",
        "union -2", "both -1", "both -3", "both -4", "less -1", "less -3", "less -4", "part -1", "part -2",
        "part -4", "kept -1", "kept -2", "kept -4", "has true", "has false",
        "get java.lang.IllegalArgumentException", "get java.util.NoSuchElementException",
        "get java.lang.ArithmeticException", "key java.lang.IllegalArgumentException",
        "key java.lang.IndexOutOfBoundsException", "rank -1", "rank 9", "fold java.lang.IllegalArgumentException",
        "fold java.lang.ArithmeticException", "fold 0", "row -4", "add -1", "add -4", "add -2", "join -1",
        "join -4", "join -2", "cut -1", "cut -2", "cut -4", "replace -1", "replace -2", "replace -4", "turned -1",
        "turned -4", "at java.lang.IllegalArgumentException", "at java.lang.IndexOutOfBoundsException", "find -1",
        "find -2", "find -3", "find 0", "find 9", "heap -4", "push -1", "push -4", "push -2", "meld -1", "meld -4",
        "meld -2", "pop -1", "pop -4", "pop -3", "least java.lang.IllegalArgumentException",
        "least java.util.NoSuchElementException", "size -1", "size 0", "size 100", "same -1", "same 0", "same 1",
        "sound true", "sound false", "worked 0", "worked 99", "told -2", "told 0", "told 300"};
    private static final Map<String, Method> OF_CLASS = methods(OrderedMaps.class);
    private static final Map<String, Method> OF_MODEL = methods(Model.class);
    private static final Map<String, Integer> met = new HashMap<>();

    private static Random random;
    private static int focus;
    private static int keySpan;
    private static int growing;
    private static int failing;
    private static int clearing;
    /** In a run with phases a new family of things begins at times, with keys that the older ones have not. */
    private static int phase;
    private static long base;
    /** The thing of the family that has most parts, and that of the family before. */
    private static int largest;
    private static int older;
    private static boolean bits;
    private static boolean strict;

    public static void main(String[] args) {
        Due due = new Due();
        for (int run = 0; run < RUNS && due.isClean(); run++) {
            // seeds near one another would draw the same first numbers
            random = new Random(run * 0x9E3779B97F4A7C15L);
            focus = random.nextInt(4);
            keySpan = new int[] {6, 40, 130, 100000}[random.nextInt(4)];
            growing = new int[] {30, 60, 85, 93}[random.nextInt(4)];
            failing = new int[] {0, 3, 25}[random.nextInt(3)];
            clearing = random.nextInt(4) == 0 ? 150 : 100000;
            phase = new int[] {CALLS, 70, 110}[random.nextInt(3)];
            bits = random.nextBoolean();
            strict = random.nextBoolean();
            run(due, run);
        }
        everyCodeWasMet(due);
        System.out.println(RUNS + " runs of " + CALLS + " calls");
        due.end();
    }

    private static void run(Due due, int run) {
        OrderedMaps x = new OrderedMaps();
        Model model = new Model();
        largest = -1;
        for (int i = 0; i < CALLS; i++) {
            Call call = drawn(model);
            if (i % phase == 0) {
                beginFamily(call, i);
            }
            int things = model.told(0);
            String want = answer(call, model, OF_MODEL);
            String got = answer(call, x, OF_CLASS);
            met.merge(call.name + " " + want, 1, Integer::sum);
            if (model.told(0) > things && model.size(things) >= model.size(largest)) {
                largest = things;
            }
            if (!got.equals(want)) {
                due.tell("run " + run + ", call " + i + ": " + call + " answered " + got + ", due is " + want);
            }
        }
    }

    private static void beginFamily(Call call, int i) {
        call.name = new String[] {"map", "map", "row", "heap"}[focus];
        call.yes = bits;
        call.also = strict;
        older = largest;
        largest = -1;
        base = 1000000L * i;
    }

    private static Call drawn(Model model) {
        Call call = new Call();
        call.name = name();
        call.a = thing(call.name, model);
        call.b = random.nextInt(4) == 0 ? older : thing(call.name, model);
        call.n = random.nextInt(20) == 0 ? anyInt() : random.nextInt(Math.max(1, model.size(call.a)) + 2) - 1;
        call.side = random.nextInt(12) == 0 ? anyInt() : random.nextInt(2);
        call.key = key(call, model);
        call.p = random.nextInt(2) == 0 ? number() : key(call, model);
        call.q = random.nextInt(100) < failing ? 0 : divisor();
        call.yes = random.nextBoolean();
        call.also = random.nextInt(3) == 0;
        return call;
    }

    /** Half of the keys are those of the map, but for put, where most are new. */
    private static long key(Call call, Model model) {
        boolean isHeld = random.nextInt(call.name.equals("put") ? 20 : 2) == 0;
        int size = model.size(call.a);
        return isHeld && size > 0 && model.sortOf(call.a) == 1 ? model.key(call.a, random.nextInt(size)) : number();
    }

    /** Three of four kinds of run keep to one sort of thing, so that those grow up to the limit. */
    private static String name() {
        if (random.nextInt(clearing) == 0) {
            return "clear";
        }
        int from = new int[] {0, 0, 13, 21}[focus];
        int to = new int[] {31, 13, 21, 26}[focus];
        if (random.nextInt(12) == 0) {
            return NAMES[26 + random.nextInt(5)];
        }
        String grow = new String[] {NAMES[random.nextInt(26)], "put", "add", "push"}[focus];
        return random.nextInt(100) < growing ? grow : NAMES[from + random.nextInt(to - from)];
    }

    private static int sortOf(String name) {
        int place = List.of(NAMES).indexOf(name);
        return place < 13 ? 1 : place < 21 ? 2 : place < 26 ? 3 : 0;
    }

    /** Most often a thing of the sort that the call wants; the largest one first, so that it grows. */
    private static int thing(String name, Model model) {
        int things = model.told(0);
        int luck = random.nextInt(30);
        if (luck == 0 || things == 0) {
            return random.nextBoolean() ? things : anyInt();
        }
        int thing = random.nextInt(100) < growing && largest < things ? largest : random.nextInt(things);
        for (int i = 0; luck > 2 && i < things && sortOf(name) != 0; i++) {
            int fitting = Math.floorMod(thing - i, things);
            if (model.sortOf(fitting) == sortOf(name)) {
                return fitting;
            }
        }
        return thing;
    }

    private static int anyInt() {
        return new int[] {-1, 2, 3, 4, 100, 300, Integer.MIN_VALUE, Integer.MAX_VALUE}[random.nextInt(8)];
    }

    private static long number() {
        int luck = random.nextInt(40);
        if (luck == 0) {
            return random.nextLong();
        }
        return luck < 4 ? EDGES[random.nextInt(EDGES.length)] : base + random.nextInt(keySpan) - keySpan / 3;
    }

    private static long divisor() {
        return random.nextInt(10) == 0 ? number() : random.nextInt(7) - 2;
    }

    private static Object[] arguments(Call c) {
        return switch (c.name) {
            case "map" -> new Object[] {c.yes, c.also};
            case "put" -> new Object[] {c.a, c.key, c.p, c.q};
            case "union", "both", "less", "join", "meld", "same" -> new Object[] {c.a, c.b};
            case "part" -> new Object[] {c.a, c.key, c.side};
            case "kept" -> new Object[] {c.a, c.q, (long) c.n};
            case "drop", "has", "get", "rank", "push" -> new Object[] {c.a, c.key};
            case "key", "at" -> new Object[] {c.a, c.n};
            case "fold" -> new Object[] {c.a, c.key, c.p};
            case "add" -> new Object[] {c.a, c.yes, c.key};
            case "cut" -> new Object[] {c.a, c.n, c.side};
            case "replace", "find" -> new Object[] {c.a, c.n, c.key};
            case "turned", "pop", "least", "size", "sound" -> new Object[] {c.a};
            case "told" -> new Object[] {c.n};
            default -> new Object[0];
        };
    }

    private static Map<String, Method> methods(Class<?> of) {
        Map<String, Method> found = new HashMap<>();
        for (Method method : of.getDeclaredMethods()) {
            if (!Modifier.isPrivate(method.getModifiers())) {
                found.put(method.getName(), method);
            }
        }
        return found;
    }

    private static String answer(Call call, Object x, Map<String, Method> methods) {
        try {
            return "" + methods.get(call.name).invoke(x, arguments(call));
        } catch (InvocationTargetException thrown) {
            return thrown.getCause() instanceof RuntimeException cause && isByThrow(cause, x)
                    ? cause.getClass().getName() : "the machine's " + thrown.getCause();
        } catch (IllegalAccessException closed) {
            return "no such call";
        }
    }

    private static boolean isByThrow(RuntimeException thrown, Object x) {
        return x instanceof Model || Due.isThrownByTheClass(thrown);
    }

    private static void everyCodeWasMet(Due due) {
        for (String code : DUE_CODES) {
            int times = met.getOrDefault(code, 0);
            due.is("the runs met " + code + " " + times + " times: often", times >= OFTEN, true);
        }
    }
}
