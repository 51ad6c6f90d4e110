import java.util.ArrayList;
import java.util.List;

/** What a tunnel answers afterwards: a look at all that it tells, a drive on, and another look. */
final class Afterwards {
    private static final List<String> CALLS = calls();

    private Afterwards() {
    }

    /** The first call that one answers differently from one of the others, or an empty text. */
    static String difference(Asked one, Asked... others) {
        for (String call : CALLS) {
            String answer = Script.ask(one, call);
            for (Asked other : others) {
                String due = Script.ask(other, call);
                if (!answer.equals(due)) {
                    return call + " answered " + answer + ", due is " + due;
                }
            }
        }
        return "";
    }

    private static List<String> calls() {
        List<String> calls = new ArrayList<>();
        lookAtMachine(calls);
        lookAtLine(calls);
        lookAtGround(calls);
        driveOn(calls);
        lookAtLine(calls);
        lookAtGround(calls);
        return calls;
    }

    private static void add(List<String> calls, String text) {
        calls.addAll(Script.callsOf(text));
    }

    private static void each(List<String> calls, String name, int... arguments) {
        for (int argument : arguments) {
            calls.add(name + " " + argument);
        }
    }

    private static void lookAtMachine(List<String> calls) {
        add(calls, "clock; slurry; slurryFor; ringCount; curedShare; isConsistent");
        for (int stack = 0; stack < 3; stack++) {
            each(calls, "taperAt " + stack, 0, 1, 3, 11);
            add(calls, "heightOf " + stack + "; hoursToCure " + stack);
            add(calls, "deviationWith " + stack + " 3; bestPosition " + stack);
            add(calls, "leastDeviation " + stack + " 2; leastByTrying " + stack + " 3");
            add(calls, "reasonFor " + stack + " 2");
        }
        each(calls, "lineAt", 0, 2, 4, 6, 7, 38);
    }

    private static void lookAtLine(List<String> calls) {
        for (int ring = 0; ring < 3; ring++) {
            add(calls, "positionOf " + ring + "; taperOf " + ring + "; deviationAfter " + ring);
            add(calls, "xAfter " + ring + "; yAfter " + ring);
        }
        add(calls, "xAnew 1; yAnew 1; isConsistent");
    }

    private static void lookAtGround(List<String> calls) {
        each(calls, "sinkingAt", 0, 1, 2, 3, 4, 199);
        for (int house : new int[] {0, 1, 2, 7}) {
            add(calls, "sinkingOf " + house + "; tiltOf " + house);
            add(calls, "claimOf " + house + "; paidTo " + house);
        }
        add(calls, "paidTotal; worstHouse; meanSinking; needAt 3; weaknessAt 3; needAt 199");
    }

    /** Each setting tells the one before, each count that more is added to tells itself. */
    private static void driveOn(List<String> calls) {
        add(calls, "setPressure 0; stop 3; stop 21; setTolerance 9999; addSlurry 3");
        add(calls, "addGround 1 90 19; addCurve 1 4 -3; addHouse 0 1 1 50; cast 0 9; restack 0 1");
        add(calls, "restack 2 1; restack 1 2; restack 2 2; cast 2 3; cast 1 8; stop 24");
        add(calls, "addSlurry 150; lay 0 2; lay 1 5; lay 2 3; lay 2 0; lay 1 7; lay 0 6");
        add(calls, "claim 0; claim 1; claim 7; addGround 50 1 1; addCurve 50 1 1; clock; slurry");
        add(calls, "ringCount; heightOf 0; heightOf 1; heightOf 2; writeRings 0; lineAt 0");
        add(calls, "lineAt 2; lineAt 6; lineAt 10; writeRings 1; lineAt 0; needAt 4; slurryFor");
    }
}
