import java.lang.management.ManagementFactory;
import java.lang.reflect.InvocationTargetException;
import java.lang.reflect.Method;
import java.lang.reflect.Modifier;
import java.util.ArrayList;
import java.util.Arrays;
import java.util.Comparator;
import java.util.List;
import java.util.Random;

/** Any calls with any arguments: none throws, what is refused changes nothing, and all stay within the room. */
public final class AnyCallTests {
    private static final int RUNS = 1500, CALLS = 512;
    private static final long ROOM_BYTES = 1_000_000;
    private static final List<String> ASKING = List.of("far", "of", "stay", "known", "ofPromise", "broken", "inForce",
        "says", "owed", "mayStay", "worth", "same", "joined", "clash", "judge", "bestOf", "voyage", "began", "ordered",
        "trace", "taken", "read", "count");
    private static final List<Method> CALLABLE = callable();
    private static int wrong = 0;
    private static long unrefused = 0;

    private static void bad(String what) {
        wrong++;
        if (wrong < 20) {
            System.out.println(what);
        }
    }

    public static void main(String[] args) {
        Random random = new Random(11);
        for (int i = 0; i < RUNS; i++) {
            run(random, i % 3);
        }
        everyCallAtTheEdges();
        room();
        System.out.println(wrong == 0 ? "all calls are well, " + unrefused + " were not refused"
            : wrong + " calls are not well");
        if (wrong != 0) {
            System.exit(1);
        }
    }

    private static List<Method> callable() {
        List<Method> methods = new ArrayList<>();
        for (Method m : NameRolls.class.getDeclaredMethods()) {
            if (Modifier.isPublic(m.getModifiers())) {
                methods.add(m);
            }
        }
        methods.sort(Comparator.comparing(Method::getName));
        return methods;
    }

    private static int call(NameRolls x, Method m, Object[] arguments) {
        try {
            return (Integer) m.invoke(x, arguments);
        } catch (InvocationTargetException e) {
            bad(m.getName() + Arrays.toString(arguments) + " threw " + e.getCause());
            return 0;
        } catch (IllegalAccessException e) {
            throw new IllegalStateException(e);
        }
    }

    private static int argument(Random random, String name, int place) {
        int[] edges = {-1, 0, 1, 2, 3, 5, 7, 9, 10, 16, 17, 18, 20, 60, 99, 100, 600, 601, Integer.MAX_VALUE,
            Integer.MIN_VALUE, -2, 27, 28};
        switch (random.nextInt(12)) {
            case 0: return edges[random.nextInt(edges.length)];
            case 1: return random.nextInt();
            case 2: return random.nextInt(40);
            case 3:
            case 4: return random.nextInt(12);
            default: break;
        }
        if (name.equals("feed")) {
            String signs = "kgyandbct19<+*&;?!";
            return place == 0 ? 1 : signs.charAt(random.nextInt(signs.length()));
        }
        if (name.equals("days")) {
            return 1 + random.nextInt(3);
        }
        return random.nextInt(name.equals("road") || name.equals("move") ? 18 : 5) - (random.nextInt(4) == 0 ? 1 : 0);
    }

    private static Object[] arguments(Random random, Method m) {
        Object[] arguments = new Object[m.getParameterCount()];
        for (int i = 0; i < arguments.length; i++) {
            arguments[i] = argument(random, m.getName(), i);
        }
        return arguments;
    }

    private static void prepare(Random random, NameRolls x) {
        int camps = random.nextInt(7);
        for (int i = 0; i < camps; i++) {
            x.camp(i % 2, 9);
            x.road(i, 16 + i % 2, 1 + i);
            x.person(1 + i, i, 20, -1, i == 1 ? 8 : 0);
        }
    }

    private static boolean isRefused(Method m, int answer) {
        if (m.getName().equals("blank")) {
            return false;
        }
        if (m.getName().equals("act")) {
            return answer == NameRolls.NO_VALUE;
        }
        return answer <= -1 && answer >= -5;
    }

    /** One object gets all calls, its twin just those that were not refused and change something. */
    private static void run(Random random, int sort) {
        NameRolls x = new NameRolls();
        NameRolls twin = new NameRolls();
        if (sort > 0) {
            long seed = random.nextLong();
            prepare(new Random(seed), x);
            prepare(new Random(seed), twin);
        }
        int more = sort == 2 ? random.nextInt(CALLABLE.size()) : -1;
        for (int i = 0; i < CALLS - 60; i++) {
            int which = more >= 0 && random.nextInt(3) == 0 ? more : random.nextInt(CALLABLE.size());
            Method m = CALLABLE.get(which);
            Object[] arguments = arguments(random, m);
            int answer = call(x, m, arguments);
            boolean asks = ASKING.contains(m.getName());
            if (asks || !isRefused(m, answer)) {
                unrefused += isRefused(m, answer) ? 0 : 1;
                if (!asks || random.nextBoolean()) {
                    int again = call(twin, m, arguments);
                    if (again != answer) {
                        bad(m.getName() + Arrays.toString(arguments) + " answered " + answer + ", its twin " + again);
                    }
                }
            }
        }
        compare(x, twin);
    }

    private static void compare(NameRolls x, NameRolls twin) {
        for (Method m : CALLABLE) {
            if (!ASKING.contains(m.getName())) {
                continue;
            }
            int n = m.getParameterCount();
            for (int a = -1; a < 24; a++) {
                for (int b = 0; b < (n > 1 ? 12 : 1); b++) {
                    Object[] arguments = new Object[n];
                    Arrays.fill(arguments, 1);
                    arguments[0] = a;
                    if (n > 1) {
                        arguments[1] = b;
                    }
                    int answer = call(x, m, arguments);
                    int again = call(twin, m, arguments);
                    if (answer != again) {
                        bad("in the end " + m.getName() + Arrays.toString(arguments) + " answered " + answer
                            + ", its twin " + again);
                    }
                }
            }
        }
        compareEnd(x, twin);
    }

    /** What can only be seen by a call that changes something. */
    private static void compareEnd(NameRolls x, NameRolls twin) {
        for (String name : List.of("find", "order", "bridge", "sail", "best", "text", "ratio", "blank", "rise", "canBe",
            "sought", "load", "letter", "promise", "fact", "person", "days")) {
            for (Method m : CALLABLE) {
                if (m.getName().equals(name)) {
                    Object[] arguments = new Object[m.getParameterCount()];
                    Arrays.fill(arguments, name.equals("sail") ? 30 : name.equals("promise") ? 1 : 0);
                    int answer = call(x, m, arguments);
                    int again = call(twin, m, arguments);
                    if (answer != again) {
                        bad("in the end " + name + " answered " + answer + ", its twin " + again);
                    }
                }
            }
        }
    }

    private static void everyCallAtTheEdges() {
        int[] edges = {Integer.MIN_VALUE, -1, 0, 1, 2, 600, Integer.MAX_VALUE};
        NameRolls x = new NameRolls();
        prepare(new Random(3), x);
        for (Method m : CALLABLE) {
            int n = m.getParameterCount();
            int all = 1;
            for (int i = 0; i < n; i++) {
                all *= edges.length;
            }
            for (int code = 0; code < all; code++) {
                Object[] arguments = new Object[n];
                int rest = code;
                for (int i = 0; i < n; i++) {
                    arguments[i] = edges[rest % edges.length];
                    rest /= edges.length;
                }
                call(x, m, arguments);
            }
        }
    }

    // ---- the room: bytes made stand for objects and fields, four bytes at least each

    private static long bytesMade() {
        return ((com.sun.management.ThreadMXBean) ManagementFactory.getThreadMXBean())
            .getThreadAllocatedBytes(Thread.currentThread().getId());
    }

    private static void room() {
        long most = 0;
        for (int i = 0; i < 20; i++) {
            long before = bytesMade();
            dearRun(i);
            most = Math.max(most, bytesMade() - before);
        }
        if (most > ROOM_BYTES) {
            bad("a run made " + most + " bytes");
        }
    }

    private static void dearRun(int i) {
        NameRolls x = new NameRolls();
        x.camp(0, 99);
        x.camp(1, 99);
        x.road(0, 16, 1);
        for (int p = 0; p < 150; p++) {
            x.person(3, p % 2, 9, -1, 0);
        }
        x.feed(3, 0x6B2B6B);
        x.text(22, 0);
        for (int n = 0; n < 50; n++) {
            x.offer(n % 14);
            x.offer((n + 1) % 14);
            x.best();
            x.joined(0);
            x.load(0, 1, 1);
            x.sail(9, 9, 9);
            x.walker(0, 9);
            x.walker(1, 9);
            x.bridge(1 + i % 3);
            x.sought(0, 0, 9);
            x.find(0);
            x.act(n, 2, 5);
        }
    }
}
