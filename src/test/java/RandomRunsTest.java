import java.lang.reflect.InvocationTargetException;
import java.lang.reflect.Method;
import java.util.ArrayList;
import java.util.Arrays;
import java.util.List;
import java.util.TreeMap;
import java.util.TreeSet;

/**
 * All promises: long runs of drawn calls on an object and on the model, which must answer alike.
 * The draws come from a generator with a fixed start, so that each run is the same every time.
 */
public final class RandomRunsTest {
    private static final int CALLS = 512;
    private static final int RUNS = 2000;

    private static final String[] CHANGING = {
        "write", "punch", "setCopies", "read", "sync", "abandon", "offline", "online", "spoil",
        "scrub",
    };
    /** How often each of them is drawn, by the kind of run. */
    private static final int[][] SHARES = {
        {10, 2, 1, 6, 5, 1, 2, 3, 12, 1},
        {8, 2, 1, 12, 3, 1, 2, 3, 30, 1},
        {60, 1, 2, 1, 3, 0, 1, 1, 2, 0},
        {8, 6, 1, 3, 8, 1, 6, 6, 20, 0},
        {60, 6, 0, 1, 4, 1, 0, 0, 0, 0},
    };

    private static final TreeMap<String, Method[]> METHODS = new TreeMap<>();
    private static final TreeSet<String> OUTCOMES = new TreeSet<>();
    private static long state;

    public static void main(String[] args) throws Exception {
        for (Method each : Zfsmill.class.getDeclaredMethods()) {
            if (java.lang.reflect.Modifier.isPublic(each.getModifiers())) {
                Method twin = Model.class.getDeclaredMethod(
                        each.getName(), each.getParameterTypes());
                METHODS.put(each.getName(), new Method[] {each, twin});
            }
        }
        for (int run = 1; run <= RUNS; run++) {
            if (!playRun(run)) {
                System.exit(1);
            }
        }
        checkThatRunsReachedEverything();
        System.out.println(RUNS + " runs of " + CALLS + " calls answered alike, "
                + OUTCOMES.size() + " kinds of outcome");
    }

    private static int draw(int bound) {
        state = state * 6364136223846793005L + 1442695040888963407L;
        return (int) ((state >>> 33) % bound);
    }

    private static boolean playRun(int run) throws Exception {
        state = run * 7919L;
        draw(2);
        Zfsmill pool = new Zfsmill();
        Model model = new Model();
        int kind = run % SHARES.length;
        int files = kind == 2 || kind == 4 ? 4 : 1 + draw(4);
        int blocks = kind == 2 || kind == 4 ? 12 : 1 + draw(12);
        List<String> calls = new ArrayList<>();
        for (int call = 0; call < CALLS; call++) {
            String name = drawName(kind);
            Object[] arguments = drawArguments(name, model, files, blocks);
            Object got = answer(METHODS.get(name)[0], pool, arguments);
            Object want = answer(METHODS.get(name)[1], model, arguments);
            calls.add(name + Arrays.toString(arguments) + " -> " + got);
            OUTCOMES.add(name + (want instanceof Class<?> c ? " " + c.getSimpleName() : ""));
            if (!got.equals(want)) {
                System.out.println("run " + run + ", due is " + want + " at the end of " + calls);
                return false;
            }
        }
        return true;
    }

    private static String drawName(int kind) {
        if (draw(3) == 0) {
            List<String> all = new ArrayList<>(METHODS.keySet());
            all.removeAll(Arrays.asList(CHANGING));
            return all.get(draw(all.size()));
        }
        int sum = 0;
        for (int share : SHARES[kind]) {
            sum += share;
        }
        int rest = draw(sum);
        int at = 0;
        while (rest >= SHARES[kind][at]) {
            rest -= SHARES[kind][at];
            at++;
        }
        return CHANGING[at];
    }

    /** Mostly in range, at times just beside it, and now and then far off. */
    private static int near(int from, int to) {
        int way = draw(150);
        if (way == 0) {
            return from - 1;
        }
        if (way == 1) {
            return to + 1;
        }
        if (way == 2) {
            return draw(2) == 0 ? Integer.MIN_VALUE : Integer.MAX_VALUE;
        }
        return from + draw(to - from + 1);
    }

    private static Object[] drawArguments(String name, Model model, int files, int blocks) {
        int file = near(0, files - 1);
        int block = near(0, blocks - 1);
        int mirror = near(0, 2);
        int side = near(0, 1);
        switch (name) {
            case "write":
                return new Object[] {file, block, near(1, 9999)};
            case "punch":
                return new Object[] {file, block, draw(4) == 0 ? near(0, 11) : block};
            case "setCopies":
                return new Object[] {file, near(1, 2)};
            case "offline":
            case "online":
                return new Object[] {mirror, side};
            case "spoil":
            case "isSpoilt":
                List<int[]> used = model.usedPlaces();
                if (used.isEmpty() || draw(12) == 0) {
                    return new Object[] {mirror, side, near(0, 39)};
                }
                int[] place = used.get(draw(draw(2) == 0 ? used.size() : Math.min(7, used.size())));
                return new Object[] {place[0], side, place[1]};
            case "isFree":
                return new Object[] {mirror, near(0, 39)};
            case "free":
                return new Object[] {mirror};
            case "place":
                return new Object[] {file, block, near(0, 1)};
            case "nodePlace":
                return new Object[] {file, near(0, 1)};
            case "rootPlace":
                return new Object[] {near(0, 1)};
            case "checksum":
                return new Object[] {file};
            default:
                return METHODS.get(name)[0].getParameterCount() == 0
                        ? new Object[0] : new Object[] {file, block};
        }
    }

    private static Object answer(Method method, Object on, Object[] arguments) throws Exception {
        try {
            Object got = method.invoke(on, arguments);
            return got == null ? "nothing" : got;
        } catch (InvocationTargetException e) {
            if (e.getCause() instanceof AssertionError error) {
                throw error;
            }
            return e.getCause().getClass();
        }
    }

    private static void checkThatRunsReachedEverything() {
        List<String> missing = new ArrayList<>();
        for (Method[] each : METHODS.values()) {
            String name = each[0].getName();
            if (!OUTCOMES.contains(name)) {
                missing.add(name);
            }
            for (Class<?> thrown : each[0].getExceptionTypes()) {
                if (!OUTCOMES.contains(name + " " + thrown.getSimpleName())) {
                    missing.add(name + " " + thrown.getSimpleName());
                }
            }
        }
        if (!missing.isEmpty()) {
            System.out.println("the runs never came to " + missing);
            System.exit(1);
        }
    }
}
