import java.lang.reflect.InvocationTargetException;
import java.lang.reflect.Method;
import java.lang.reflect.Modifier;
import java.util.Arrays;
import java.util.Map;
import java.util.function.Function;
import java.util.stream.Collectors;

/** A tunnel whose calls are asked by their name. */
final class Driven implements Asked {
    /** So many calls of one object are promised. */
    static final int CALLS = 512;

    private static final Map<String, Method> FACE = Arrays.stream(
            TunnelRing.class.getDeclaredMethods())
            .filter(m -> Modifier.isPublic(m.getModifiers()))
            .collect(Collectors.toMap(Method::getName, Function.identity()));

    private final TunnelRing tunnel;
    private int calls;

    Driven() {
        this(new TunnelRing());
    }

    Driven(TunnelRing tunnel) {
        this.tunnel = tunnel;
    }

    /** The names of all calls, in an order that does not change. */
    static String[] face() {
        return FACE.keySet().stream().sorted().toArray(String[]::new);
    }

    static int argumentsOf(String name) {
        return FACE.get(name).getParameterCount();
    }

    int calls() {
        return calls;
    }

    @Override
    public String call(String name, int... arguments) {
        calls++;
        if (calls > CALLS) {
            throw new IllegalStateException("a test asks more calls than are promised");
        }
        try {
            return "" + FACE.get(name).invoke(tunnel, Arrays.stream(arguments).boxed().toArray());
        } catch (InvocationTargetException e) {
            return "throws." + e.getCause().getClass().getSimpleName();
        } catch (IllegalAccessException e) {
            return "not public";
        }
    }
}
