import java.lang.reflect.InvocationTargetException;
import java.lang.reflect.Method;
import java.lang.reflect.Modifier;
import java.util.HashMap;
import java.util.Map;

/** Calls told by their names and numbers, of SpinBench and of the Model alike. */
final class Calls {
    private static final Map<String, Method> METHODS = new HashMap<>();

    private Calls() { }

    static long answer(Object bench, String call, int... numbers) {
        Object[] arguments = new Object[numbers.length];
        for (int i = 0; i < numbers.length; i++) {
            arguments[i] = numbers[i];
        }
        try {
            return ((Number) method(bench.getClass(), call).invoke(bench, arguments)).longValue();
        } catch (InvocationTargetException thrown) {
            throw new IllegalStateException(call + " threw", thrown.getCause());
        } catch (IllegalAccessException hidden) {
            throw new IllegalStateException(hidden);
        }
    }

    private static Method method(Class<?> owner, String call) {
        return METHODS.computeIfAbsent(owner.getName() + "." + call, key -> {
            for (Method one : owner.getDeclaredMethods()) {
                if (one.getName().equals(call) && !Modifier.isPrivate(one.getModifiers())) {
                    return one;
                }
            }
            throw new IllegalStateException("there is no " + key);
        });
    }
}
