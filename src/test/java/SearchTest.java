/** Promises 32 and 33 over many plans: the search gives up nothing that could become better. */
public final class SearchTest {
    private static final String[] STACKS = {"cast 0 0 *4", "cast 0 1 *4", "cast 0 9; cast 0 0 *3",
        "cast 0 0 *3; cast 0 9", "cast 0 2; cast 0 5; cast 0 1; cast 0 3"};
    private static final int[] BENDS = {-5, -3, 0, 4, 5};

    public static void main(String[] args) {
        for (String stack : STACKS) {
            for (int bendX : BENDS) {
                for (int bendY : BENDS) {
                    bentOnce(stack, bendX + " " + bendY);
                    bentBack(stack, bendX, bendY);
                }
            }
        }
        Check.end();
    }

    private static void bentOnce(String stack, String bend) {
        both(stack + "; addCurve 1 " + bend);
        both(stack + "; addCurve 4 " + bend);
        both(stack + "; addCurve 1 0 0; addCurve 3 " + bend);
    }

    /** The line has come away from the plan, and the plan bends further away or back to it. */
    private static void bentBack(String stack, int bendX, int bendY) {
        String laid = "addGround 2 0 0; cast 0 6; cast 0 7; stop 24; addSlurry 80; lay 0 2; lay 0 1;"
                + stack + "; addCurve 3 " + bendX + " " + bendY;
        both(laid);
        both(laid + "; addCurve 3 " + -bendX + " " + -bendY);
        both(laid + "; addCurve 1 " + bendY + " " + -bendX + "; addCurve 2 -5 5");
    }

    private static void both(String before) {
        Driven tunnel = Script.played(new Driven(), before);
        Model model = Script.played(new Model(), before);
        for (int count = 1; count <= 3; count++) {
            String due = model.call("leastDeviation", 0, count);
            Check.same("32 " + count + " after " + before, tunnel.call("leastDeviation", 0, count),
                    due);
            Check.same("33 " + count + " after " + before, tunnel.call("leastByTrying", 0, count),
                    due);
        }
        Check.same("32, 33 both after " + before, tunnel.call("leastDeviation", 0, 4),
                tunnel.call("leastByTrying", 0, 4));
    }
}
