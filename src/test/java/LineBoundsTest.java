/** The boundary cases of promises 23 to 33, each sentence by itself. */
public final class LineBoundsTest {
    private static final String LAID = Ready.tunnel(6, 0, 0)
            + "; addCurve 2 1 -2; lay 2 1; lay 1 3; lay 2 6";
    private static final String THREE = "cast 1 2; cast 1 7; cast 1 4";
    private static final int[] SIDE = {0, 1, 1, 1, 0, -1, -1, -1};
    private static final int[] UP = {1, 1, 0, -1, -1, -1, 0, 1};

    public static void main(String[] args) {
        ringsOfTheLine();
        oneRing();
        bendsThatAreNotPlanned();
        deviationWithArguments();
        deviationWhereItCannotBeLaid();
        bestArguments();
        bestOfEight();
        bestOfSix();
        lowestOfSeveral();
        leastArguments();
        leastOfTooFewRings();
        leastFromTheTop();
        leastThatFits();
        Check.end();
    }

    private static void ringsOfTheLine() {
        String[] calls = {"positionOf", "taperOf", "xAfter", "yAfter", "xAnew", "yAnew",
            "deviationAfter"};
        int[][] due = {{1, 3, 6}, {6, 1, 7}, {6, 13, 13}, {6, 11, 16}, {6, 13, 13}, {6, 11, 16},
            {13, 27, 34}};
        for (int call = 0; call < calls.length; call++) {
            for (int ring = 0; ring < 3; ring++) {
                Edge.due("23 to 29 a ring", LAID, calls[call] + " " + ring, due[call][ring]);
            }
            Edge.outside("23 to 29 a ring", LAID, calls[call] + " #", 0, 2, Edge.INDEX);
            Edge.outside("23 to 29 ground alone", Ready.tunnel(6, 0, 0), calls[call] + " #", 0, -1,
                    Edge.INDEX);
            Edge.due("23 to 29 the ground's last ring", LAID, calls[call] + " 5", Edge.INDEX);
            Edge.due("23 to 29 the 201st ring", LAID, calls[call] + " 200", Edge.INDEX);
        }
    }

    private static void oneRing() {
        for (int position = 0; position < 8; position++) {
            String one = Ready.tunnel(1, 0, 0) + "; lay 2 " + position;
            Edge.due("23 a position", one, "positionOf 0", position);
            Edge.due("24 a taper", one, "taperOf 0", 6);
            Edge.due("25 to the side", one, "xAfter 0", 6 * SIDE[position]);
            Edge.due("26 upward", one, "yAfter 0", 6 * UP[position]);
            Edge.due("27 to the side", one, "xAnew 0", 6 * SIDE[position]);
            Edge.due("28 upward", one, "yAnew 0", 6 * UP[position]);
            Edge.due("23 no second ring", one, "positionOf 1", Edge.INDEX);
        }
        String greatest = "addGround 1 0 0; cast 0 9; stop 24; addSlurry 40; lay 0 1";
        Edge.due("24 greatest taper", greatest, "taperOf 0", 9);
        Edge.due("29 greatest taper", greatest, "deviationAfter 0", 18);
        Edge.due("24 no taper", Ready.tunnel(1, 0, 0) + "; lay 0 1", "taperOf 0", 0);
        Edge.due("29 no taper", Ready.tunnel(1, 0, 0) + "; lay 0 1", "deviationAfter 0", 0);
    }

    private static void bendsThatAreNotPlanned() {
        String plain = Ready.tunnel(4, 0, 0);
        String rings = "; lay 0 0; lay 0 1; lay 0 0";
        Edge.due("29 no plan", plain + rings, "deviationAfter 2", 0);
        Edge.due("29 one ring is planned", plain + "; addCurve 1 -5 5" + rings, "deviationAfter 0",
                10);
        Edge.due("29 the heading stays", plain + "; addCurve 1 -5 5" + rings, "deviationAfter 2",
                30);
        Edge.due("29 the last planned one", plain + "; addCurve 3 -1 0" + rings,
                "deviationAfter 2", 6);
        Edge.due("29 planned later", plain + rings + "; addCurve 3 -1 0", "deviationAfter 2", 6);
        Edge.due("30 the next one is planned", plain + "; addCurve 4 -1 0" + rings,
                "deviationWith 0 2", 10);
        Edge.due("30 the next one is not", plain + "; addCurve 3 -1 0" + rings,
                "deviationWith 0 2", 9);
    }

    private static void deviationWithArguments() {
        int[] due = {7, 14, 7, 14, 7, 14, 7, 14};
        for (int position = 0; position < 8; position++) {
            Edge.due("30 a position", THREE + "; cast 2 7", "deviationWith 2 " + position,
                    due[position]);
        }
        Edge.outside("30 stack", LAID, "deviationWith # 0", 0, 2, Edge.INDEX);
        Edge.outside("30 stack before position", LAID, "deviationWith # 8", 0, 2, Edge.INDEX);
        Edge.outside("30 stack before empty", "", "deviationWith # -1", 0, 2, Edge.INDEX);
        Edge.outside("30 position", LAID, "deviationWith 0 #", 0, 7, Edge.ARGUMENT);
        Edge.outside("30 position before empty", THREE, "deviationWith 0 #", 0, 7, Edge.ARGUMENT);
        Edge.due("30 empty", THREE, "deviationWith 0 0", Edge.ELEMENT);
        Edge.due("30 empty", THREE, "deviationWith 2 7", Edge.ELEMENT);
        Edge.due("30 emptied", "cast 0 1; restack 0 1", "deviationWith 0 7", Edge.ELEMENT);
    }

    /** Whether a ring can be laid makes no difference: no ground, not cured, does not fit. */
    private static void deviationWhereItCannotBeLaid() {
        Edge.due("30 no ground, not cured, no slurry", "cast 0 9", "deviationWith 0 1", 18);
        Edge.due("30 not tolerated", "cast 0 9; setTolerance 0", "deviationWith 0 5", 18);
        String laid = Ready.tunnel(1, 0, 0) + "; lay 2 2";
        Edge.due("30 the same position", laid, "deviationWith 2 2", 19);
        Edge.due("30 the opposite one", laid, "deviationWith 2 6", 5);
        Edge.due("30 the top ring counts", laid + "; cast 2 0", "deviationWith 2 6", 12);
    }

    private static void bestArguments() {
        Edge.outside("31 stack", LAID, "bestPosition #", 0, 2, Edge.INDEX);
        Edge.outside("31 stack before empty", "", "bestPosition #", 0, 2, Edge.INDEX);
        Edge.due("31 empty", THREE, "bestPosition 0", Edge.ELEMENT);
        Edge.due("31 empty", THREE, "bestPosition 2", Edge.ELEMENT);
        Edge.due("31 emptied", "cast 0 1; restack 0 2", "bestPosition 0", Edge.ELEMENT);
        Edge.due("31 the only ring", "cast 2 1", "bestPosition 2", 0);
    }

    private static String bend(int position) {
        return "addCurve 1 " + 5 * SIDE[position] + " " + 5 * UP[position];
    }

    private static void bestOfEight() {
        for (int position = 0; position < 8; position++) {
            String first = "cast 0 5; " + bend(position);
            Edge.due("31 each fits at first", first, "bestPosition 0", position);
            Edge.due("32 each fits at first", first, "leastDeviation 0 1", 0);
            Edge.due("33 each fits at first", first, "leastByTrying 0 1", 0);
        }
    }

    /** The plan goes on to where the ring before lies, or to the other side: neither fits. */
    private static void bestOfSix() {
        int[] best = {1, 0, 1, 2, 3, 4, 5, 0};
        for (int position = 0; position < 8; position++) {
            for (int before = 0; before < 8; before++) {
                String laid = Ready.tunnel(3, 0, 0) + "; cast 0 5; addCurve 1 0 0; " + bend(position)
                        + "; restack 0 1; lay 0 " + before;
                boolean fits = before % 4 != position % 4;
                Edge.due("31 behind " + before, laid, "bestPosition 1",
                        fits ? position : best[position]);
                Edge.due("32 behind " + before, laid, "leastDeviation 1 1", fits ? 0 : 5);
                Edge.due("33 behind " + before, laid, "leastByTrying 1 1", fits ? 0 : 5);
            }
        }
    }

    private static void lowestOfSeveral() {
        int[][] bends = {{2, 4, 0}, {-2, 4, 0}, {4, 2, 1}, {4, -2, 2}, {2, -4, 3}, {-2, -4, 4},
            {-4, -2, 5}, {-4, 2, 6}, {0, 0, 0}};
        for (int[] b : bends) {
            Edge.due("31 the lowest", "cast 0 4; addCurve 1 " + b[0] + " " + b[1],
                    "bestPosition 0", b[2]);
        }
        int[] due = {1, 0, 0, 0, 1, 0, 0, 0};
        for (int before = 0; before < 8; before++) {
            Edge.due("31 the lowest that fits", Ready.tunnel(1, 0, 0) + "; lay 0 " + before,
                    "bestPosition 0", due[before]);
        }
    }

    private static void leastArguments() {
        for (String call : new String[] {"leastDeviation ", "leastByTrying "}) {
            Edge.outside("32, 33 stack", LAID, call + "# 1", 0, 2, Edge.INDEX);
            Edge.outside("32, 33 stack before count", LAID, call + "# 0", 0, 2, Edge.INDEX);
            Edge.outside("32, 33 stack before count", LAID, call + "# 5", 0, 2, Edge.INDEX);
            Edge.outside("32, 33 stack before too few", "", call + "# 1", 0, 2, Edge.INDEX);
            Edge.outside("32, 33 count", LAID, call + "0 #", 1, 4, Edge.ARGUMENT);
            Edge.outside("32, 33 count of twelve", "cast 2 1 *12", call + "2 #", 1, 4,
                    Edge.ARGUMENT);
            Edge.outside("32, 33 count before too few", "", call + "0 #", 1, 4, Edge.ARGUMENT);
            String plan = "cast 0 0 *12; addCurve 6 3 -2";
            int[] due = {5, 15, 30, 50};
            for (int count = 1; count <= 4; count++) {
                Edge.due("32, 33 count", plan, call + "0 " + count, due[count - 1]);
            }
        }
    }

    private static void leastOfTooFewRings() {
        for (String call : new String[] {"leastDeviation ", "leastByTrying "}) {
            Edge.due("32, 33 an empty stack", THREE, call + "0 1", Edge.ELEMENT);
            for (int rings = 1; rings <= 4; rings++) {
                String cast = "cast 2 0 *" + rings;
                Edge.due("32, 33 just as many", cast, call + "2 " + rings, 0);
                if (rings < 4) {
                    Edge.due("32, 33 one too few", cast, call + "2 " + (rings + 1), Edge.ELEMENT);
                    Edge.due("32, 33 too few", cast, call + "2 4", Edge.ELEMENT);
                }
            }
            Edge.due("32, 33 other stacks do not count", "cast 0 0 *12; cast 1 0; cast 2 0 *12",
                    call + "1 2", Edge.ELEMENT);
        }
    }

    private static void leastFromTheTop() {
        for (String call : new String[] {"leastDeviation ", "leastByTrying "}) {
            String plan = "; addCurve 1 0 5";
            Edge.due("32, 33 the top ring", "cast 0 0; cast 0 5" + plan, call + "0 1", 0);
            Edge.due("32, 33 then the one below", "cast 0 0; cast 0 5" + plan, call + "0 2", 0);
            Edge.due("32, 33 the top ring", "cast 0 5; cast 0 0" + plan, call + "0 1", 5);
            Edge.due("32, 33 then the one below", "cast 0 5; cast 0 0" + plan, call + "0 2", 5);
            Edge.due("32, 33 no ground, not cured", "cast 0 9; setTolerance 0", call + "0 1", 9);
            String tapers = Ready.tunnel(6, 0, 0) + "; addCurve 6 3 -2";
            int[] due = {3, 9, 14, 20};
            for (int count = 1; count <= 4; count++) {
                Edge.due("32, 33 rising tapers", tapers, call + "1 " + count, due[count - 1]);
            }
        }
    }

    /** Each ring would best go straight upward, but two one behind the other do not fit. */
    private static void leastThatFits() {
        for (String call : new String[] {"leastDeviation ", "leastByTrying "}) {
            String upward = Ready.tunnel(6, 0, 0) + "; addCurve 6 0 4";
            int[] due = {3, 8, 14, 20};
            for (int count = 1; count <= 4; count++) {
                Edge.due("32, 33 upward", upward, call + "1 " + count, due[count - 1]);
            }
            String laid = Ready.tunnel(6, 0, 0) + "; lay 2 0";
            Edge.due("32, 33 back is not possible at once", laid, call + "2 1", 12);
            Edge.due("32, 33 but with two rings", laid, call + "2 2", 10);
        }
    }
}
