import java.lang.reflect.InvocationTargetException;
import java.lang.reflect.Method;
import java.util.Arrays;

/** Whatever is asked in whatever state: a call throws only what it declares, by a throw of its own. */
public final class WildTest {
    private static final int[] WILD = {-1, 0, 1, 2, 5, 79, 80, 127, 128, 255, 256, 6000, 99999, 100000,
        Integer.MIN_VALUE, Integer.MAX_VALUE};

    public static void main(String[] args) throws IllegalAccessException {
        Check.Tell[] states = {x -> { }, x -> x.entry(0, -1), Check::some, WildTest::full};
        for (Check.Tell state : states) {
            for (Method method : IndexSort.class.getDeclaredMethods()) {
                if ((method.getModifiers() & java.lang.reflect.Modifier.PUBLIC) != 0) {
                    all(state, method);
                }
            }
        }
        Check.finish();
    }

    private static void full(IndexSort x) {
        Check.some(x);
        for (int e = 5; e < 80; e++) {
            x.entry(0, -1);
        }
        for (int k = 0; k < 25; k++) {
            int n = k;
            Check.answer(() -> x.sign(0, n));
            Check.answer(() -> x.page(0, 1, n));
            Check.answer(() -> x.see(0, n));
        }
        Check.style(x, "|%w%p%s|" + "y".repeat(71) + "|");
    }

    /** Every choice of arguments, each on a new object, or on the one before while it has calls left. */
    private static void all(Check.Tell state, Method method) throws IllegalAccessException {
        int count = method.getParameterCount();
        int choices = 1;
        for (int k = 0; k < count; k++) {
            choices *= WILD.length;
        }
        IndexSort x = null;
        for (int choice = 0; choice < choices; choice++) {
            if (choice % 150 == 0) {
                x = new IndexSort();
                state.to(x);
            }
            Object[] arguments = new Object[count];
            int rest = choice;
            for (int k = 0; k < count; k++) {
                int n = WILD[rest % WILD.length];
                arguments[k] = method.getParameterTypes()[k] == boolean.class ? (Object) (n % 2 == 0) : (Object) n;
                rest /= WILD.length;
            }
            one(x, method, arguments);
        }
    }

    private static void one(IndexSort x, Method method, Object[] arguments) throws IllegalAccessException {
        try {
            method.invoke(x, arguments);
        } catch (InvocationTargetException e) {
            Throwable thrown = e.getCause();
            boolean declared = Arrays.asList(method.getExceptionTypes()).contains(thrown.getClass());
            boolean ofItsOwn = thrown.getStackTrace()[0].getMethodName().equals(method.getName())
                && !("" + thrown.getMessage()).startsWith("Index ");
            Check.same(method.getName() + Arrays.toString(arguments) + " threw " + thrown, "true true",
                declared + " " + ofItsOwn);
        }
    }
}
