/** The boundary cases of the ground that sinks, while rings are laid and while the machine stands. */
public final class StandingBoundsTest {
    public static void main(String[] args) {
        pressureWhileLaying();
        quotientsWhileLaying();
        firstAndLastGround();
        middleGround();
        pressureWhileStanding();
        quotientsWhileStanding();
        groundAhead();
        layingIsNotStanding();
        Check.end();
    }

    /** Three rings of ground that have not sunk until the first of them is laid. */
    private static String laid(int need, int weakness, int pressure) {
        return "addGround 3 " + need + " " + weakness + "; cast 0 0 *3; setPressure 100; stop 24;"
                + "addSlurry 500; setPressure " + pressure + "; lay 0 0";
    }

    private static void sunk(String before, int... due) {
        for (int ring = 0; ring < due.length; ring++) {
            Edge.due("34 sinking", before, "sinkingAt " + ring, due[ring]);
        }
    }

    private static void pressureWhileLaying() {
        sunk(laid(60, 20, 60), 0, 0, 0);
        sunk(laid(60, 20, 61), 0, 0, 0);
        sunk(laid(60, 20, 59), 2, 1, 0);
        sunk(laid(60, 20, 0), 120, 60, 0);
        sunk(laid(100, 20, 0), 200, 100, 0);
        sunk(laid(0, 20, 0), 0, 0, 0);
        sunk(laid(100, 0, 0), 0, 0, 0);
    }

    private static void quotientsWhileLaying() {
        sunk(laid(51, 9, 50), 0, 0, 0);
        sunk(laid(51, 10, 50), 1, 0, 0);
        sunk(laid(51, 19, 50), 1, 0, 0);
        sunk(laid(51, 20, 50), 2, 1, 0);
        sunk(laid(53, 13, 50), 3, 1, 0);
        sunk(laid(57, 7, 50), 4, 2, 0);
        sunk(laid(59, 11, 50), 9, 4, 0);
    }

    private static void firstAndLastGround() {
        String one = "addGround 1 60 10; cast 0 0 *2; setPressure 100; stop 24; addSlurry 500;"
                + "setPressure 50; lay 0 0";
        sunk(one, 10);
        Edge.due("34 no ground behind the last one", one, "sinkingAt 1", Edge.INDEX);
        Edge.due("34 ground that comes later", one + "; addGround 1 0 0", "sinkingAt 1", 0);
        String full = "addGround 1 60 10; addGround 1 90 2; cast 0 0 *2; setPressure 100; stop 24;"
                + "addSlurry 500; setPressure 50; lay 0 0; lay 0 1";
        sunk(full, 10 + 4, 5 + 8);
    }

    private static void middleGround() {
        sunk(laid(60, 10, 100) + "; setPressure 50; lay 0 1", 5, 10, 5);
        sunk(laid(60, 10, 50) + "; lay 0 1; lay 0 2", 10 + 5, 5 + 10 + 5, 5 + 10);
        String mixed = "addGround 1 0 20; addGround 1 60 3; addGround 2 100 20; cast 0 0 *2;"
                + "setPressure 100; stop 24; addSlurry 500; setPressure 50; lay 0 0; lay 0 1";
        sunk(mixed, 1, 3, 1, 0);
    }

    private static String standing(int need, int weakness, int pressure, String stops) {
        return "addGround 2 " + need + " " + weakness + "; setPressure " + pressure + "; " + stops;
    }

    private static void pressureWhileStanding() {
        sunk(standing(60, 20, 60, "stop 100"), 0, 0);
        sunk(standing(60, 20, 61, "stop 100"), 0, 0);
        sunk(standing(60, 20, 57, "stop 100"), 100, 0);
        sunk(standing(60, 20, 0, "stop 1"), 24, 0);
        sunk(standing(100, 20, 0, "stop 100"), 4000, 0);
        sunk(standing(100, 20, 0, "stop 100 *50"), 200000, 0);
        sunk(standing(0, 20, 0, "stop 100"), 0, 0);
        sunk(standing(100, 0, 0, "stop 100"), 0, 0);
        sunk("addGround 1 51 20; addGround 1 0 0; stop 100", 0, 0);
        sunk("addGround 1 55 10; addGround 1 0 0; stop 100", 100, 0);
    }

    private static void quotientsWhileStanding() {
        sunk(standing(57, 7, 50, "stop 100"), 0, 0);
        sunk(standing(60, 5, 50, "stop 1"), 1, 0);
        sunk(standing(60, 5, 50, "stop 100"), 100, 0);
        sunk(standing(61, 9, 50, "stop 1"), 1, 0);
        sunk(standing(61, 9, 50, "stop 2"), 2, 0);
        sunk(standing(61, 9, 50, "stop 1 *2"), 2, 0);
        sunk(standing(61, 9, 50, "stop 100"), 100, 0);
        sunk(standing(60, 10, 50, "stop 3"), 6, 0);
    }

    private static void groundAhead() {
        Edge.due("20 no ground at all", "stop 7", "stop 100", 107);
        String one = Ready.tunnel(1, 40, 20) + "; lay 0 0; setPressure 0";
        Edge.due("20 no ground ahead", one, "stop 100", 126);
        sunk(one + "; stop 100", 0);
        sunk(one + "; stop 100; addGround 1 90 20", 0, 0);
        sunk(one + "; addGround 1 90 20; stop 1", 0, 36);
        sunk(Ready.tunnel(3, 40, 20) + "; lay 0 0; setPressure 0; stop 1", 0, 16, 0);
    }

    private static void layingIsNotStanding() {
        sunk(laid(60, 10, 55) + "; setPressure 100; stop 1", 5, 2, 0);
        Edge.due("21 laying takes hours", laid(60, 10, 55), "clock", 26);
    }
}
