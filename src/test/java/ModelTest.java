import java.lang.reflect.Method;
import java.lang.reflect.Modifier;
import java.util.ArrayList;
import java.util.Comparator;
import java.util.List;

/** Long runs of calls, each answer held against the model's, and the whole state by digest() behind each call. */
public final class ModelTest {
    private static final int RUNS = 4000;
    private static final int CALLS = 256;
    private static final int[] WRONG = {-1, 4, 13, 100, -13, 25, 101, Integer.MIN_VALUE, Integer.MAX_VALUE};

    // The same numbers in each run of this test: a fixed rule, not chance.
    private static long seed;

    public static void main(String[] args) {
        List<Method> calls = new ArrayList<>();
        for (Method method : Cutwalks.class.getDeclaredMethods()) {
            if (Modifier.isPublic(method.getModifiers())) {
                calls.add(method);
            }
        }
        calls.sort(Comparator.comparing(Method::getName));
        for (int run = 0; run < RUNS; run++) {
            seed = run;
            if (!isRunRight(run, calls)) {
                System.exit(1);
            }
        }
        System.out.println("ModelTest: " + RUNS + " runs of " + 2 * CALLS + " calls are as the model's");
    }

    private static boolean isRunRight(int run, List<Method> calls) {
        Cutwalks x = new Cutwalks();
        Model model = new Model();
        // Few kinds of item make ROWS that are alike in much; many kinds make all the others.
        int kinds = new int[] {2, 4, 13, 100}[run % 4];
        List<String> told = new ArrayList<>();
        for (int time = 0; time < CALLS; time++) {
            Method call = calls.get(next(calls.size()));
            int[] arguments = arguments(call, kinds);
            told.add(call.getName() + java.util.Arrays.toString(arguments));
            Object want = Due.answer(() -> model.call(call.getName(), arguments));
            Object got = answer(x, call, arguments);
            if (!want.equals(got) || x.digest() != (Long) model.call("digest")) {
                System.out.println("run " + run + ": " + told);
                System.out.println("answered " + got + ", due is " + want + "; digest() " + x.digest() + ", due is "
                        + model.call("digest"));
                return false;
            }
        }
        return true;
    }

    private static Object answer(Cutwalks x, Method call, int[] arguments) {
        Object[] given = new Object[arguments.length];
        for (int i = 0; i < given.length; i++) {
            if (call.getParameterTypes()[i] == boolean.class) {
                given[i] = arguments[i] == 1;
            } else {
                given[i] = arguments[i];
            }
        }
        return Due.answer(x, call, given);
    }

    private static int next(int bound) {
        seed = seed * 6364136223846793005L + 1442695040888963407L;
        return (int) ((seed >>> 33) % bound);
    }

    /** Numbers of ROWS and WALKS first, then what fits the method; now and then a wrong one. */
    private static int[] arguments(Method call, int kinds) {
        int[] a = new int[call.getParameterCount()];
        for (int i = 0; i < a.length; i++) {
            a[i] = call.getParameterTypes()[i] == boolean.class ? next(2) : argument(call.getName(), i, kinds);
        }
        if (call.getName().matches("thin|sift") && next(4) > 0) {
            a[1] = 1 + next(5);
            a[2] = next(a[1]);
        }
        if (call.getName().equals("part") && next(4) > 0) {
            a[2] = next(4);
            a[3] = a[2] + next(6);
        }
        return a;
    }

    private static int argument(String call, int at, int kinds) {
        if (next(60) == 0) {
            return WRONG[next(WRONG.length)];
        }
        String numbers = "copy isSame isWithin order twin merge weave pair through pass part open row";
        boolean isRowOrWalk = at == 0 && !call.equals("house") || at == 1 && !call.equals("row") && numbers.contains(call)
                || at == 2 && call.matches("merge|weave|pair|through");
        if (isRowOrWalk) {
            return next(4);
        }
        switch (call) {
            case "house":
                return next(6);
            case "ofWalk":
                return next(7);
            case "go":
                return next(27) - 13;
            case "roll":
                return next(3) == 0 ? next(25) : next(3);
            case "open":
            case "insert":
            case "removeAt":
            case "change":
            case "at":
                return at == 1 && !call.equals("open") || at == 2 && call.equals("open") ? next(9) : next(kinds);
            case "row":
                return at == 3 ? next(13) : at == 2 ? next(3) : next(kinds);
            default:
                return next(kinds);
        }
    }
}
