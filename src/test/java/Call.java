import java.lang.reflect.InvocationTargetException;
import java.lang.reflect.Method;
import java.lang.reflect.Modifier;
import java.util.ArrayList;
import java.util.HashMap;
import java.util.List;
import java.util.Map;

/** A call as a thing, so that the same can be made on the class and on the model. */
record Call(String name, long... args) {
    /** What no call answers: that it threw. */
    static final long THREW = Long.MIN_VALUE;

    private static final Map<String, Method> FOUND = new HashMap<>();

    /** Calls told as letters: "people 3; deed 0 11 0". */
    static List<Call> all(String letters) {
        List<Call> calls = new ArrayList<>();
        for (String call : letters.split(";")) {
            if (!call.isBlank()) {
                String[] words = call.trim().split(" +");
                long[] args = new long[words.length - 1];
                for (int i = 0; i < args.length; i++) {
                    args[i] = Long.parseLong(words[i + 1]);
                }
                calls.add(new Call(words[0], args));
            }
        }
        return calls;
    }

    /** The calls that type these letters. */
    static List<Call> typed(String letters) {
        List<Call> calls = new ArrayList<>();
        for (int i = 0; i < letters.length(); i++) {
            calls.add(new Call("type", letters.charAt(i)));
        }
        return calls;
    }

    private static Method find(Class<?> on, String name, int count) {
        for (Method method : on.getDeclaredMethods()) {
            boolean hidden = Modifier.isStatic(method.getModifiers()) || Modifier.isPrivate(method.getModifiers());
            if (!hidden && method.getName().equals(name) && method.getParameterCount() == count) {
                method.setAccessible(true);
                return method;
            }
        }
        throw new IllegalStateException(on + " has no " + name + " of " + count);
    }

    long on(Object x) {
        Method method = FOUND.computeIfAbsent(x.getClass().getName() + " " + name + " " + args.length,
            key -> find(x.getClass(), name, args.length));
        Class<?>[] types = method.getParameterTypes();
        Object[] told = new Object[args.length];
        for (int i = 0; i < args.length; i++) {
            if (types[i] == long.class) {
                told[i] = args[i];
            } else {
                told[i] = Math.toIntExact(args[i]);
            }
        }
        try {
            return ((Number) method.invoke(x, told)).longValue();
        } catch (InvocationTargetException e) {
            System.out.println(this + " threw " + e.getCause());
            return THREW;
        } catch (IllegalAccessException e) {
            throw new IllegalStateException(e);
        }
    }

    static void each(Object x, List<Call> calls) {
        for (Call call : calls) {
            call.on(x);
        }
    }

    @Override
    public String toString() {
        StringBuilder letters = new StringBuilder(name + "(");
        for (int i = 0; i < args.length; i++) {
            letters.append(i == 0 ? "" : ", ").append(args[i]);
        }
        return letters.append(")").toString();
    }
}
