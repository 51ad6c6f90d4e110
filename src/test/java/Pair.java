import java.util.Arrays;

/** A tunnel and its model: each call goes to both, and both have to answer the same. */
final class Pair {
    final Model model = new Model();
    private final Driven tunnel = new Driven();
    private final String title;

    Pair(String title) {
        this.title = title;
    }

    int calls() {
        return tunnel.calls();
    }

    String ask(String name, int... arguments) {
        String due = model.call(name, arguments);
        Check.same(title + " call " + calls() + " " + name + Arrays.toString(arguments),
                tunnel.call(name, arguments), due);
        return due;
    }
}
