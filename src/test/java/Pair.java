import java.lang.reflect.InvocationTargetException;
import java.lang.reflect.Method;
import java.util.Arrays;
import java.util.Comparator;
import java.util.Map;
import java.util.function.Function;
import java.util.stream.Collectors;

/** A tunnel and its model: each call goes to both, and both have to answer the same. */
final class Pair {
    /** So many calls of one object are promised. */
    static final int CALLS = 512;

    private static final Map<String, Method> FACE = Arrays.stream(
            TunnelRing.class.getDeclaredMethods())
            .filter(m -> java.lang.reflect.Modifier.isPublic(m.getModifiers()))
            .collect(Collectors.toMap(Method::getName, Function.identity()));

    final Model model = new Model();
    int calls;
    private final TunnelRing tunnel = new TunnelRing();
    private final String title;

    Pair(String title) {
        this.title = title;
    }

    static String[] face() {
        return FACE.values().stream().map(Method::getName).sorted(Comparator.naturalOrder())
                .toArray(String[]::new);
    }

    String ask(String name, int... arguments) {
        String due = model.call(name, arguments);
        Check.same(title + " call " + calls + " " + name + Arrays.toString(arguments),
                answer(name, arguments), due);
        calls++;
        return due;
    }

    private String answer(String name, int[] arguments) {
        try {
            return "" + FACE.get(name).invoke(tunnel, Arrays.stream(arguments).boxed().toArray());
        } catch (InvocationTargetException e) {
            return "throws." + e.getCause().getClass().getSimpleName();
        } catch (IllegalAccessException e) {
            return "not public";
        }
    }
}
