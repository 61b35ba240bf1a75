import java.lang.reflect.InvocationTargetException;
import java.lang.reflect.Method;
import java.lang.reflect.Modifier;
import java.util.Arrays;

/**
 * Every call with every mixture of numbers at and beyond the document's limits, on an object without anything, a
 * small one and a full one: it answers, or throws the very exception that its declaration names and no other.
 */
public final class ExtremesTest {
    private static final int MOST_CALLS = 512;
    private static final long[] NUMBERS = {Long.MIN_VALUE, Integer.MIN_VALUE - 1L, Integer.MIN_VALUE, -1, 0, 1, 2, 3,
            4, 5, 6, 7, 8, 9, 10, 39, 40, 119, 120, 200, 201, 255, 256, 1000, 1001, 10000, 10001, 100000, 100001,
            Integer.MAX_VALUE, Integer.MAX_VALUE + 1L, 1L << 32, Long.MAX_VALUE};
    private static final long[] FEW_NUMBERS = {Long.MIN_VALUE, Integer.MIN_VALUE, -1, 0, 1, 9, 10, 10001, 100000,
            Integer.MAX_VALUE, 1L << 32, Long.MAX_VALUE};

    private static final Due due = new Due();

    private FeederOrders line;
    private int calls;

    public static void main(String[] args) throws IllegalAccessException {
        for (Method method : FeederOrders.class.getDeclaredMethods()) {
            if (Modifier.isPublic(method.getModifiers())) {
                for (int state = 0; state < 3; state++) {
                    new ExtremesTest().tryAll(method, state);
                }
            }
        }
        due.end();
    }

    private void tryAll(Method method, int state) throws IllegalAccessException {
        Class<?>[] types = method.getParameterTypes();
        long[] numbers = types.length > 3 ? FEW_NUMBERS : NUMBERS;
        int mixtures = (int) Math.pow(numbers.length, types.length);
        for (int mixture = 0; mixture < mixtures; mixture++) {
            Object[] told = new Object[types.length];
            int rest = mixture;
            for (int i = 0; i < told.length; i++) {
                long number = numbers[rest % numbers.length];
                rest /= numbers.length;
                told[i] = types[i] == int.class ? (Object) clipped(number) : (Object) number;
            }
            renew(state);
            call(method, told, state);
        }
    }

    private static int clipped(long number) {
        return (int) Math.max(Integer.MIN_VALUE, Math.min(Integer.MAX_VALUE, number));
    }

    /** No object is asked more often than the document lets it be; a full one takes about a hundred calls to make. */
    private void renew(int state) {
        calls++;
        if (line == null || calls > MOST_CALLS - 100) {
            calls = 0;
            line = state == 0 ? new FeederOrders(1L, 1) : state == 1 ? Lines.settled() : Lines.full();
        }
    }

    private void call(Method method, Object[] told, int state) throws IllegalAccessException {
        try {
            method.invoke(line, told);
        } catch (InvocationTargetException e) {
            Class<?> thrown = e.getCause().getClass();
            if (!Arrays.asList(method.getExceptionTypes()).contains(thrown)) {
                due.tell(method.getName() + Arrays.toString(told) + " of line " + state + " threw " + e.getCause());
            }
        }
    }
}
