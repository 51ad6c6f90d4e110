import java.util.ArrayList;
import java.util.Arrays;
import java.util.List;

/** Calls that are told as a text, as in "addGround 10 60 5; cast 0 2 *12; clock". */
final class Script {
    private Script() {
    }

    /** The calls of a text one by one; a call with "*n" behind it comes n times. */
    static List<String> callsOf(String text) {
        List<String> calls = new ArrayList<>();
        for (String part : text.split(";")) {
            String[] sides = part.trim().split(" \\*");
            int times = sides.length == 1 ? 1 : Integer.parseInt(sides[1]);
            for (int time = 0; time < times && !sides[0].isEmpty(); time++) {
                calls.add(sides[0]);
            }
        }
        return calls;
    }

    static String ask(Asked asked, String call) {
        String[] words = call.split(" ");
        return asked.call(words[0],
                Arrays.stream(words).skip(1).mapToInt(Integer::parseInt).toArray());
    }

    /** Asks all calls of a text, of which none may be refused. */
    static <A extends Asked> A played(A asked, String text) {
        for (String call : callsOf(text)) {
            String answer = ask(asked, call);
            Check.same(call + " of " + text + " is refused", answer.startsWith("throws."), false);
        }
        return asked;
    }
}
