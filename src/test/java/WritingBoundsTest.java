/** The boundary cases of promises 44 and 45, each sentence by itself. */
public final class WritingBoundsTest {
    private static final String TWELVE =
            "3/0 5/1 6/6 3/0 5/2 6/7 3/0 5/3 6/8 3/0 5/4 6/9";

    public static void main(String[] args) {
        lengths();
        tenAtMost();
        firstRing();
        characters();
        inPlaceOfTheLineBefore();
        extremes();
        Check.end();
    }

    private static String laid(int rings) {
        StringBuilder calls = new StringBuilder(Ready.tunnel(12, 0, 0));
        calls.append("; setTolerance 9999; setPressure 20");
        for (int ring = 0; ring < rings; ring++) {
            int stack = ring % 3;
            calls.append("; lay ").append(stack).append(' ').append("356".charAt(stack));
        }
        return calls.toString();
    }

    /** The line is due sign by sign, and nothing behind it. */
    private static void line(String before, String due) {
        for (int index = 0; index < due.length(); index++) {
            Edge.due("45 sign", before, "lineAt " + index, due.charAt(index));
        }
        Edge.outside("45 index", before, "lineAt #", 0, due.length() - 1, Edge.INDEX);
    }

    private static void lengths() {
        for (int rings = 1; rings <= 12; rings++) {
            Edge.due("44 " + rings + " rings", laid(rings), "writeRings 0",
                    Math.min(10, rings) * 4 - 1);
        }
    }

    private static void tenAtMost() {
        line(laid(9) + "; writeRings 0", TWELVE.substring(0, 35));
        line(laid(10) + "; writeRings 0", TWELVE.substring(0, 39));
        line(laid(11) + "; writeRings 0", TWELVE.substring(0, 39));
        line(laid(12) + "; writeRings 0", TWELVE.substring(0, 39));
    }

    private static void firstRing() {
        String twelve = laid(12);
        int[] due = {39, 39, 39, 35, 31, 27, 23, 19, 15, 11, 7, 3};
        for (int first = 0; first < 12; first++) {
            Edge.due("44 first", twelve, "writeRings " + first, due[first]);
        }
        line(twelve + "; writeRings 1", TWELVE.substring(4, 43));
        line(twelve + "; writeRings 2", TWELVE.substring(8));
        line(twelve + "; writeRings 3", TWELVE.substring(12));
        line(twelve + "; writeRings 11", "6/9");
        Edge.outside("44 first", twelve + "; writeRings 10", "writeRings #", 0, 11, Edge.INDEX);
        Edge.outside("44 first, one ring", laid(1) + "; writeRings 0", "writeRings #", 0, 0,
                Edge.INDEX);
        Edge.outside("44 none is laid", laid(0), "writeRings #", 0, -1, Edge.INDEX);
        Edge.due("44 the ground's next ring", laid(3), "writeRings 3", Edge.INDEX);
    }

    private static void characters() {
        line("", "");
        line(laid(3), "");
        line(laid(1) + "; writeRings 0", "3/0");
        line(laid(2) + "; writeRings 0", "3/0 5/1");
    }

    private static void inPlaceOfTheLineBefore() {
        line(laid(12) + "; writeRings 0; writeRings 10", "5/4 6/9");
        line(laid(12) + "; writeRings 10; writeRings 9", "3/0 5/4 6/9");
        line(laid(2) + "; writeRings 1; lay 2 6", "5/1");
        line(laid(2) + "; writeRings 1; lay 2 6; writeRings 1", "5/1 6/6");
    }

    private static void extremes() {
        String ready = "addGround 2 0 0; cast 0 0; cast 0 9; stop 24; addSlurry 100; lay 0 ";
        line(ready + "7; lay 0 0; writeRings 0", "7/9 0/0");
        line(ready + "0; lay 0 7; writeRings 0", "0/9 7/0");
    }
}
