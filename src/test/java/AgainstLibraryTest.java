import java.lang.reflect.InvocationTargetException;
import java.lang.reflect.Method;
import java.lang.reflect.Modifier;
import java.util.ArrayList;
import java.util.Arrays;
import java.util.Comparator;
import java.util.List;

/** Promises 1 to 50: long mixed runs, each answer beside the one of a model built on the library's own maps. */
public final class AgainstLibraryTest {
    private static final int RUNS = 3000;
    private static final int CALLS = 512;
    private static final int[] EDGES = {
        0, 1, -1, 2, 7, -7, 10, 14, 64, 65, Integer.MAX_VALUE, Integer.MIN_VALUE, 1 << 30, 65536, 65537, -5
    };
    private static final int[] WORD_EDGES = {0, 25, 26, 701, 702, 18277, 18278, -1, 1};
    private static final List<String> OF_WORDS = Arrays.asList("count", "times", "forget");
    private static final List<String> OF_PLACES = Arrays.asList("keyAt", "valueAt");
    private static final List<String> GROWING = Arrays.asList("put", "putIfAbsent", "merge", "computeIfAbsent",
            "fill", "putShelf", "count", "mark", "markKeys", "lay", "layIfAbsent");
    private static final List<String> EMPTYING = Arrays.asList("clear", "wipe", "dropBelow", "dropMarked",
            "unmarkOthers", "room");

    private final Method[] real;
    private final Method[] model;
    // A fixed line of numbers, so that a run that fails fails again.
    private long seed = 20261118L;

    private AgainstLibraryTest() throws NoSuchMethodException {
        List<Method> all = new ArrayList<>();
        for (Method method : MapsByUse.class.getDeclaredMethods()) {
            if (Modifier.isPublic(method.getModifiers())) {
                all.add(method);
            }
        }
        all.sort(Comparator.comparing(Method::getName));
        real = all.toArray(new Method[0]);
        model = new Method[real.length];
        for (int i = 0; i < real.length; i++) {
            model[i] = LibraryModel.class.getMethod(real[i].getName(), real[i].getParameterTypes());
        }
    }

    public static void main(String[] args) throws ReflectiveOperationException {
        AgainstLibraryTest test = new AgainstLibraryTest();
        int wrongRuns = 0;
        for (int run = 0; run < RUNS && wrongRuns < 3; run++) {
            if (!test.isRunAsDue(run)) {
                wrongRuns++;
            }
        }
        Checks.end("AgainstLibraryTest", args);
    }

    private boolean isRunAsDue(int run) throws ReflectiveOperationException {
        MapsByUse x = new MapsByUse();
        LibraryModel y = new LibraryModel();
        StringBuilder calls = new StringBuilder();
        // Some runs grow much, so that what is full is met; some keep to few numbers, so that like ones are met.
        boolean growing = run % 4 != 0;
        int spread = run % 3 == 0 ? 12 : run % 3 == 1 ? 60 : 300;
        int favourite = run % 5 == 0 ? next(real.length) : -1;
        for (int i = 0; i < CALLS; i++) {
            int which = chosen(growing, favourite);
            int[] args = argumentsOf(real[which], spread);
            String due = answer(model[which], y, args);
            String got = answer(real[which], x, args);
            calls.append(real[which].getName()).append(Arrays.toString(args)).append(" -> ").append(got).append('\n');
            if (!got.equals(due)) {
                Checks.fault("run " + run + ", due at the end is " + due + ":\n" + calls);
                return false;
            }
        }
        return true;
    }

    private int chosen(boolean growing, int favourite) {
        if (favourite >= 0 && next(3) == 0) {
            return favourite;
        }
        int which = next(real.length);
        for (int i = 0; growing && i < 6 && isSkipped(real[which].getName()); i++) {
            which = next(real.length);
        }
        return which;
    }

    private boolean isSkipped(String name) {
        return EMPTYING.contains(name) ? next(4) != 0 : !GROWING.contains(name) && next(3) == 0;
    }

    private int[] argumentsOf(Method method, int spread) {
        int[] args = new int[method.getParameterCount()];
        for (int i = 0; i < args.length; i++) {
            args[i] = argument(method.getName(), i, spread);
        }
        return args;
    }

    private int argument(String method, int index, int spread) {
        if (OF_WORDS.contains(method)) {
            return next(8) == 0 ? WORD_EDGES[next(WORD_EDGES.length)] : next(spread);
        }
        if (OF_PLACES.contains(method)) {
            return next(20) == 0 ? EDGES[next(EDGES.length)] : next(8) - 1;
        }
        if (method.equals("room")) {
            return next(8) == 0 ? EDGES[next(EDGES.length)] : next(63) - 1;
        }
        if (method.equals("fill") && index == 2) {
            return next(8) == 0 ? EDGES[next(EDGES.length)] : next(66);
        }
        if (method.equals("fill") && index == 1 && next(4) == 0) {
            return next(2) == 0 ? 0 : 1 << 24 + next(8);
        }
        if (method.equals("dropBelow") && next(4) != 0) {
            return -next(1000);
        }
        return next(8) == 0 ? EDGES[next(EDGES.length)] : next(spread) - spread / 4;
    }

    private static String answer(Method method, Object x, int[] args) throws ReflectiveOperationException {
        Object[] boxed = new Object[args.length];
        for (int i = 0; i < args.length; i++) {
            boxed[i] = args[i];
        }
        try {
            return String.valueOf(method.invoke(x, boxed));
        } catch (InvocationTargetException e) {
            return "throws." + e.getCause().getClass().getSimpleName();
        }
    }

    private int next(int bound) {
        seed = seed * 6364136223846793005L + 1442695040888963407L;
        return (int) ((seed >>> 33) % bound);
    }
}
