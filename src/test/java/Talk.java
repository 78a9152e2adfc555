import java.lang.reflect.Method;
import java.util.Arrays;
import java.util.HashMap;
import java.util.Map;

/** Calls by their names, so that they can stand in tables: on the class, and on the ReferenceShop. */
final class Talk {
    private static final Map<String, Method> KNOWN = new HashMap<>();

    private Talk() {
    }

    static int ask(Object shop, String call, int... args) {
        Object[] given = Arrays.stream(args).boxed().toArray();
        try {
            return (Integer) methodOf(shop.getClass(), call).invoke(shop, given);
        } catch (ReflectiveOperationException e) {
            throw new IllegalStateException(told(call, args), e);
        }
    }

    static String told(String call, int... args) {
        String row = Arrays.toString(args);
        return call + "(" + row.substring(1, row.length() - 1) + ")";
    }

    private static Method methodOf(Class<?> kind, String call) {
        return KNOWN.computeIfAbsent(kind.getName() + "." + call, key -> {
            for (Method method : kind.getDeclaredMethods()) {
                // an overload of a face's call is its helper, with other parameters than numbers
                if (method.getName().equals(call) && Arrays.stream(method.getParameterTypes()).allMatch(t -> t == int.class)) {
                    return method;
                }
            }
            throw new IllegalStateException("no call " + call);
        });
    }
}
