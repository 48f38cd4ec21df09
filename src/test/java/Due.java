import java.lang.reflect.InvocationTargetException;
import java.lang.reflect.Method;
import java.util.function.Supplier;

/** Holds answers against those that are due, prints the wrong ones, and ends the run with 1 if there was one. */
final class Due {
    static final String INDEX = "IndexOutOfBoundsException";
    static final String ARGUMENT = "IllegalArgumentException";
    static final String STATE = "IllegalStateException";

    private final String test;
    private String part = "";
    private int looked;
    private int wrong;

    Due(String test) {
        this.test = test;
    }

    void promise(int number) {
        part("promise " + number);
    }

    /** Of which part of the document the answers that follow are. */
    void part(String name) {
        part = name;
    }

    int looked() {
        return looked;
    }

    void is(Object got, Object want) {
        looked++;
        if (!want.equals(got)) {
            wrong++;
            String where = StackWalker.getInstance().walk(frames -> frames
                    .filter(frame -> !frame.getClassName().equals("Due") && !frame.getClassName().equals("Sentences"))
                    .findFirst().map(frame -> "line " + frame.getLineNumber()).orElse("?"));
            System.out.println(test + ", " + part + ", " + where + ": " + got + ", due is " + want);
        }
    }

    /** The call throws just this exception, and the object stands as it stood. */
    void fails(Cutwalks x, String exception, Supplier<Object> call) {
        long before = x.digest();
        is(answer(call), "throws " + exception);
        is(x.digest(), before);
    }

    /** What the call answers, or the name of what it throws. */
    static Object answer(Supplier<Object> call) {
        try {
            return call.get();
        } catch (RuntimeException thrown) {
            return "throws " + thrown.getClass().getSimpleName();
        }
    }

    /** As above, of a call that is told by its method and its arguments. */
    static Object answer(Cutwalks x, Method call, Object... given) {
        try {
            return call.invoke(x, given);
        } catch (InvocationTargetException thrown) {
            return "throws " + thrown.getCause().getClass().getSimpleName();
        } catch (IllegalAccessException closed) {
            return "not open: " + call;
        }
    }

    void end() {
        System.out.println(test + ": " + looked + " answers looked at, " + wrong + " wrong");
        if (wrong != 0) {
            System.exit(1);
        }
    }
}
