import java.lang.reflect.InvocationTargetException;
import java.lang.reflect.Method;
import java.util.ArrayList;
import java.util.HashMap;
import java.util.List;
import java.util.Map;

/** A new object with the calls that it was asked: the same calls can be asked of another one. */
final class Calls {
    /** Behind so many calls an object's answers are free. */
    static final int MOST = 512;

    record Call(String name, long[] numbers) { }

    private static final Map<String, Method> FACE = new HashMap<>();

    static {
        for (Method m : OrphanWave.class.getDeclaredMethods()) FACE.put(m.getName(), m);
    }

    private final OrphanWave object = new OrphanWave();
    private final List<Call> asked = new ArrayList<>();

    static boolean has(String name) {
        return FACE.containsKey(name);
    }

    int made() {
        return asked.size();
    }

    long ask(String name, long... numbers) {
        return ask(new Call(name, numbers));
    }

    long ask(Call call) {
        Method method = FACE.get(call.name());
        Class<?>[] types = method.getParameterTypes();
        if (types.length != call.numbers().length) {
            throw new IllegalArgumentException(call.name() + " takes " + types.length + " numbers");
        }
        Object[] told = new Object[types.length];
        for (int i = 0; i < told.length; i++) {
            if (types[i] == long.class) told[i] = call.numbers()[i];
            else told[i] = Math.toIntExact(call.numbers()[i]);
        }
        asked.add(call);
        try {
            return ((Number) method.invoke(object, told)).longValue();
        } catch (InvocationTargetException | IllegalAccessException e) {
            throw new IllegalStateException(call.name() + " threw", e);
        }
    }

    /** Another object, asked the first so many of these calls. */
    Calls again(int first) {
        Calls other = new Calls();
        for (int i = 0; i < first; i++) other.ask(asked.get(i));
        return other;
    }

    /** Types a text, eight bytes a call. */
    void type(String text) {
        for (int at = 0; at < text.length(); at += 8) {
            int n = Math.min(8, text.length() - at);
            long v = 0;
            for (int i = 0; i < n; i++) v = v << 8 | text.charAt(at + i);
            ask("type", v, n);
        }
    }
}
