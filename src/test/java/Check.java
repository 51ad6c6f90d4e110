import java.util.function.Consumer;
import java.util.function.Supplier;

/** Counts what is not as due, and ends a test with exit code 1 if there was any. */
final class Check {
    private static int checked;
    private static int wrong;

    private Check() {
    }

    static void same(String what, Object got, Object due) {
        checked++;
        if (!got.equals(due)) {
            wrong++;
            System.out.println(what + " answered " + got + ", due is " + due);
        }
    }

    /** The call throws just this exception, and all answers afterwards are as if it was not made. */
    static void refuses(String what, Class<? extends RuntimeException> due,
            Supplier<TunnelRing> maker, Consumer<TunnelRing> call) {
        TunnelRing tunnel = maker.get();
        same(what, thrownBy(() -> call.accept(tunnel)), due.getSimpleName());
        same("afterwards, " + what,
                Afterwards.difference(new Driven(tunnel), new Driven(maker.get())), "");
    }

    static String thrownBy(Runnable call) {
        try {
            call.run();
            return "nothing";
        } catch (RuntimeException e) {
            return e.getClass().getSimpleName();
        }
    }

    static void end() {
        System.out.println(checked + " checks, " + wrong + " wrong");
        if (wrong != 0 || checked == 0) {
            System.exit(1);
        }
    }
}
