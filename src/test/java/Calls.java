import java.lang.reflect.InvocationTargetException;
import java.lang.reflect.Method;
import java.util.ArrayList;
import java.util.Arrays;
import java.util.HashMap;
import java.util.List;
import java.util.Map;

/** Calls by name, so that the same ones can be asked of the class and of the model. */
final class Calls {
    private static final Map<String, Method> METHODS = new HashMap<>();

    private final List<Object[]> calls = new ArrayList<>();

    static {
        for (Class<?> c : List.of(WindBoxes.class, Model.class)) {
            for (Method m : c.getDeclaredMethods()) {
                METHODS.put(c.getName() + m.getName(), m);
            }
        }
    }

    /** First the name of the call, then its arguments. */
    Calls add(Object... call) {
        calls.add(call);
        return this;
    }

    int size() {
        return calls.size();
    }

    long[] askOf(Object target) {
        long[] answers = new long[calls.size()];
        for (int i = 0; i < answers.length; i++) {
            answers[i] = ask(target, calls.get(i));
        }
        return answers;
    }

    String told(int i) {
        return told(calls.get(i));
    }

    static String told(Object[] call) {
        String args = Arrays.toString(Arrays.copyOfRange(call, 1, call.length));
        return call[0] + "(" + args.substring(1, args.length() - 1) + ")";
    }

    static long ask(Object target, Object[] call) {
        Method m = METHODS.get(target.getClass().getName() + call[0]);
        try {
            return ((Number) m.invoke(target, Arrays.copyOfRange(call, 1, call.length))).longValue();
        } catch (IllegalAccessException | InvocationTargetException e) {
            throw new IllegalStateException(told(call), e);
        }
    }
}
