/**
 * A boundary case, told as text: the calls that come before, then a call and the answer that is
 * due. The model has to answer so too, and afterwards both have to go on alike. Where the call is
 * refused, all answers afterwards have to be those of a tunnel of which it was never asked, too;
 * the model stays beside it because a look that is refused could hide the same fault in both.
 */
final class Edge {
    static final String INDEX = "throws.IndexOutOfBoundsException";
    static final String ARGUMENT = "throws.IllegalArgumentException";
    static final String STATE = "throws.IllegalStateException";
    static final String ELEMENT = "throws.NoSuchElementException";
    static final String UNSUPPORTED = "throws.UnsupportedOperationException";
    static final String ARITHMETIC = "throws.ArithmeticException";

    private Edge() {
    }

    static void due(String what, String before, String call, Object answer) {
        String title = what + ": " + call + " after " + before;
        String due = "" + answer;
        Driven tunnel = Script.played(new Driven(), before);
        Check.same(title, Script.ask(tunnel, call), due);
        Model model = Script.played(new Model(), before);
        Check.same(title + ", in the model", Script.ask(model, call), due);
        String difference = due.startsWith("throws.")
                ? Afterwards.difference(tunnel, Script.played(new Driven(), before), model)
                : Afterwards.difference(tunnel, model);
        Check.same("afterwards, " + title, difference, "");
    }

    /** A call whose changing argument is written as "#". */
    static void each(String what, String before, String call, Object due, int... values) {
        for (int value : values) {
            due(what, before, call.replace("#", "" + value), due);
        }
    }

    /** What is just outside of a range, and what is furthest outside, is refused. */
    static void outside(String what, String before, String call, int least, int greatest,
            String due) {
        each(what, before, call, due, least - 1, greatest + 1, Integer.MIN_VALUE,
                Integer.MAX_VALUE, Integer.MIN_VALUE + least, Integer.MAX_VALUE - greatest);
    }
}
