import java.util.function.IntFunction;
import java.util.function.Supplier;

/** What a small tunnel tells of itself, as a text. It is asked few times: 512 calls are promised. */
final class State {
    private State() {
    }

    static String of(TunnelRing t) {
        StringBuilder s = new StringBuilder();
        s.append(t.clock()).append(' ').append(t.slurry()).append(' ').append(t.ringCount());
        s.append(" need ").append(until(t::needAt)).append(" sunk ").append(until(t::sinkingAt));
        for (int stack = 0; stack < 3; stack++) {
            int number = stack;
            s.append(" stack ").append(until(place -> t.taperAt(number, place)));
        }
        s.append(" cure ").append(until(t::hoursToCure));
        s.append(" paid ").append(until(t::paidTo)).append(" claims ").append(until(t::claimOf));
        s.append(" rings ").append(until(t::positionOf)).append(until(t::taperOf));
        s.append(until(t::xAfter)).append(until(t::yAfter)).append(until(t::deviationAfter));
        s.append(" line ").append(until(t::lineAt));
        s.append(" takes ").append(answer(t::slurryFor));
        s.append(" reason ").append(t.reasonFor(0, 2));
        int pressure = t.setPressure(0);
        int tolerance = t.setTolerance(0);
        t.setPressure(pressure);
        t.setTolerance(tolerance);
        return s.append(" set ").append(pressure).append(' ').append(tolerance).toString();
    }

    private static String answer(Supplier<Object> ask) {
        try {
            return ask.get().toString();
        } catch (RuntimeException e) {
            return e.getClass().getSimpleName();
        }
    }

    private static String until(IntFunction<Object> ask) {
        StringBuilder s = new StringBuilder("[");
        try {
            for (int index = 0; index < 20; index++) {
                s.append(ask.apply(index)).append(' ');
            }
        } catch (RuntimeException e) {
            s.append(e.getClass().getSimpleName());
        }
        return s.append(']').toString();
    }
}
