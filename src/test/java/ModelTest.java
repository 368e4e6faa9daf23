import java.lang.reflect.InvocationTargetException;
import java.lang.reflect.Method;
import java.lang.reflect.Modifier;
import java.util.ArrayList;
import java.util.Arrays;
import java.util.Comparator;
import java.util.List;
import java.util.Map;
import java.util.Random;

/**
 * Long runs of calls on a Leastbag and on the Model, always the same ones: each answer and each
 * exception has to be the same, and the digest behind each call.
 */
public final class ModelTest {
    private static final int RUNS = 1500;
    private static final int CALLS = 256;
    private static final int[] HARD = {Integer.MIN_VALUE, -100, -2, -1, 0, 1, 2, 3, 4, 5, 6, 9, 10, 19, 20, 21, 29, 30, 31,
        49, 50, 51, 59, 60, 61, 98, 99, 100, 101, 1000, 1 << 30, Integer.MAX_VALUE - 60, Integer.MAX_VALUE};

    /** How often a call comes, beside 2 for each other one: some runs are to reach the limits. */
    private static final Map<String, Integer> OFTEN = Map.of("add", 8, "offer", 6, "fill", 6, "lay", 6, "join", 8, "step", 10,
            "walk", 4, "clear", 1, "pollAll", 1, "sweep", 1);

    private final Random random;
    private final boolean isBusy;
    private final Leastbag ours = new Leastbag();
    private final Model model = new Model();

    private ModelTest(long seed) {
        random = new Random(seed);
        isBusy = seed % 3 != 0;
    }

    public static void main(String[] args) throws Exception {
        List<Method> face = face();
        for (int seed = 0; seed < RUNS; seed++) {
            if (!new ModelTest(seed).isSameRun(face, seed)) {
                break;
            }
        }
        everyHardCall(face);
        Check.end("ModelTest");
    }

    private static List<Method> face() {
        List<Method> face = new ArrayList<>();
        for (Method method : Leastbag.class.getDeclaredMethods()) {
            if (Modifier.isPublic(method.getModifiers())) {
                face.add(method);
            }
        }
        face.sort(Comparator.comparing(Method::getName));
        return face;
    }

    private boolean isSameRun(List<Method> face, int seed) throws Exception {
        List<Method> drawn = new ArrayList<>();
        for (Method method : face) {
            for (int k = OFTEN.getOrDefault(method.getName(), 2); k > 0; k--) {
                drawn.add(method);
            }
        }
        for (int call = 0; call < CALLS; call++) {
            Method method = drawn.get(random.nextInt(drawn.size()));
            if (!isSameCall("run " + seed + ", call " + call, method, arguments(method))) {
                return false;
            }
        }
        return true;
    }

    private boolean isSameCall(String where, Method method, Object[] told) throws Exception {
        String call = where + ": " + method.getName() + Arrays.toString(told);
        Object due = outcome(model, told, Model.class.getMethod(method.getName(), method.getParameterTypes()));
        Object got = outcome(ours, told, method);
        Check.due(call, got, due);
        long digest = ours.digest();
        Check.due(call + " and then digest()", digest, model.digest());
        return due.equals(got) && digest == model.digest();
    }

    private static Object outcome(Object object, Object[] told, Method method) throws Exception {
        try {
            return method.invoke(object, told);
        } catch (InvocationTargetException e) {
            return "throws." + e.getCause().getClass().getName();
        }
    }

    private Object[] arguments(Method method) {
        Class<?>[] types = method.getParameterTypes();
        Object[] told = new Object[types.length];
        boolean hasBag = !List.of("lay", "join", "leave", "list", "house", "setOrder", "walked").contains(method.getName());
        boolean hasTwo = List.of("makeLike", "addAll", "pour", "areAlike").contains(method.getName());
        for (int k = 0; k < told.length; k++) {
            if (types[k] == boolean.class) {
                told[k] = random.nextBoolean();
            } else if (random.nextInt(isBusy ? 60 : 12) == 0) {
                told[k] = HARD[random.nextInt(HARD.length)];
            } else if (k == 0 && hasBag || k == 1 && hasTwo) {
                told[k] = random.nextInt(4);
            } else {
                told[k] = usual(method.getName(), k);
            }
        }
        return told;
    }

    private int usual(String name, int k) {
        int place = List.of("lay", "join", "leave").contains(name) ? k + 1 : k;
        return switch (name) {
            case "make" -> k == 1 ? random.nextInt(4) : random.nextInt(3) * 20;
            case "fill" -> random.nextInt(k == 1 ? 31 : 100);
            case "house" -> random.nextInt(6);
            case "setOrder" -> random.nextInt(4);
            case "walked" -> random.nextInt(2);
            case "sweep", "total" -> random.nextInt(10);
            case "nth", "list" -> random.nextInt(22);
            // few weights, so that many things are like each other
            default -> place % 2 == 1 ? random.nextInt(random.nextBoolean() ? 100 : 12) : random.nextInt(6);
        };
    }

    /** Every call with every hard number in each place, on bags that have none, some and 60. */
    private static void everyHardCall(List<Method> face) throws Exception {
        for (int state = 0; state < 3; state++) {
            for (Method method : face) {
                for (int place = 0; place < method.getParameterCount(); place++) {
                    ModelTest test = new ModelTest(1);
                    test.prepare(state);
                    for (int hard : HARD) {
                        Object[] told = test.arguments(method);
                        if (told[place] instanceof Integer) {
                            told[place] = hard;
                            test.isSameCall("state " + state, method, told);
                        }
                    }
                }
            }
        }
    }

    private void prepare(int state) {
        for (int bag = 0; bag < 4; bag++) {
            ours.fill(bag, state == 0 ? 0 : 30, bag, 7);
            model.fill(bag, state == 0 ? 0 : 30, bag, 7);
            ours.fill(bag, state == 2 ? 30 : 0, bag, 13);
            model.fill(bag, state == 2 ? 30 : 0, bag, 13);
        }
        for (int k = 0; k < state * 10; k++) {
            ours.lay(k, 0);
            model.lay(k, 0);
            ours.join(k, 0);
            model.join(k, 0);
        }
        if (state > 0) {
            ours.walk(state);
            model.walk(state);
        }
    }
}
