import java.lang.reflect.InvocationTargetException;
import java.lang.reflect.Method;
import java.lang.reflect.Modifier;
import java.util.Arrays;

/** No call ever throws, for any arguments in any state: every public method with every mix of edge numbers. */
public final class ExtremesTest extends Checks {
    private static final int[] EDGES = {MIN, -1, 0, 1, 2, 7, 8, 11, 12, 59, 60, 99, 100, 127, 128, MAX};
    private static final int[] FEW_EDGES = {MIN, -1, 0, 1, 2, 8, 60, MAX};

    public static void main(String[] args) throws IllegalAccessException {
        tryAll("a new object", new BorrowStacks());
        tryAll("a full stack", withFullStack());
        tryAll("sixty pointers", withSixtyPointers());
        tryAll("freed memory", freed());
        tryAll("all at its brim", brimful());
        endOfTest();
    }

    private static BorrowStacks freed() {
        BorrowStacks x = withCells(8);
        x.reborrow(0, RAW, 0, 8, 0);
        x.free(1);
        return x;
    }

    private static BorrowStacks brimful() {
        BorrowStacks x = new BorrowStacks();
        for (int i = 0; i < 10; i++) x.allocate(8);
        for (int i = 0; i < 5; i++) x.enterCall();
        for (int i = 10; i < 60; i++) x.reborrow(i % 10, RAW, 0, 8, i % 2);
        for (int i = 0; i < 120; i++) x.append("l;".charAt(i % 2));
        return x;
    }

    private static void tryAll(String state, BorrowStacks x) throws IllegalAccessException {
        // Two rounds, since the first one leaves behind what the methods that come late have changed.
        for (int round = 0; round < 2; round++) {
            for (Method method : BorrowStacks.class.getDeclaredMethods()) {
                if (Modifier.isPublic(method.getModifiers())) tryOne(state, x, method);
            }
        }
    }

    private static void tryOne(String state, BorrowStacks x, Method method) throws IllegalAccessException {
        int[] edges = method.getParameterCount() > 3 ? FEW_EDGES : EDGES;
        int mixes = 1;
        for (int i = 0; i < method.getParameterCount(); i++) mixes *= edges.length;
        for (int mix = 0; mix < mixes; mix++) {
            Object[] arguments = new Object[method.getParameterCount()];
            int rest = mix;
            for (int i = 0; i < arguments.length; i++) {
                arguments[i] = edges[rest % edges.length];
                rest /= edges.length;
            }
            call(state, x, method, arguments);
        }
    }

    private static void call(String state, BorrowStacks x, Method method, Object[] arguments)
            throws IllegalAccessException {
        try {
            Object answer = method.invoke(x, arguments);
            boolean mayBeLower = method.getName().equals("runScript") || method.getName().equals("digest");
            if (!mayBeLower && (Integer) answer < UNDEFINED) fault(state + ": " + method.getName() + " answered " + answer);
        } catch (InvocationTargetException thrown) {
            fault(state + ": " + method.getName() + Arrays.toString(arguments) + " threw " + thrown.getCause());
        }
    }
}
