/** The boundary cases of promises 1 to 6, each sentence by itself. */
public final class GroundBoundsTest {
    private static final String GROUND = "addGround 4 40 15";
    private static final String KNOWN_150 = "addGround 50 60 10 *3";
    private static final String KNOWN_199 = KNOWN_150 + "; addGround 49 70 12";
    private static final String KNOWN_200 = KNOWN_199 + "; addGround 1 80 14";
    private static final String PLANNED_150 = "addCurve 50 2 -3 *3";
    private static final String PLANNED_199 = PLANNED_150 + "; addCurve 49 1 1";
    private static final String PLANNED_200 = PLANNED_199 + "; addCurve 1 0 0";
    private static final String SEVEN = GROUND + "; addHouse 1 2 5 5 *7";
    private static final String EIGHT = SEVEN + "; addHouse 0 3 7 9";

    public static void main(String[] args) {
        newObjectAnswers();
        newObjectRefuses();
        groundArguments();
        groundIsFull();
        groundIsBehindWhatIsKnown();
        bendArguments();
        planIsFull();
        groundOfARing();
        houseRings();
        houseArguments();
        housesAreFull();
        firstOfSeveral();
        Check.end();
    }

    private static void newObjectAnswers() {
        String[] calls = {"addGround 1 0 0", "1", "addCurve 1 0 0", "1", "cast 0 0", "1",
            "heightOf 0", "0", "heightOf 2", "0", "setPressure 0", "50", "addSlurry 1", "1",
            "slurry", "0", "setTolerance 0", "100", "reasonFor 0 0", "g", "stop 1", "1",
            "clock", "0", "ringCount", "0", "paidTotal", "0", "isConsistent", "true"};
        for (int call = 0; call < calls.length; call += 2) {
            Edge.due("1 a new object", "", calls[call], calls[call + 1]);
        }
    }

    private static void newObjectRefuses() {
        for (String call : new String[] {"needAt 0", "weaknessAt 0", "addHouse 0 0 0 1",
            "positionOf 0", "taperOf 0", "xAfter 0", "yAfter 0", "xAnew 0", "yAnew 0",
            "deviationAfter 0", "sinkingAt 0", "sinkingOf 0", "tiltOf 0", "claimOf 0", "claim 0",
            "paidTo 0", "writeRings 0", "lineAt 0"}) {
            Edge.due("1 a new object", "", call, Edge.INDEX);
        }
        for (String call : new String[] {"taperAt 0 0", "hoursToCure 0", "restack 0 0",
            "restack 0 1", "slurryFor", "deviationWith 0 0", "bestPosition 0",
            "leastDeviation 0 1", "leastByTrying 0 1", "worstHouse"}) {
            Edge.due("1 a new object", "", call, Edge.ELEMENT);
        }
        Edge.due("1 a new object", "", "lay 0 0", Edge.UNSUPPORTED);
        Edge.due("1 a new object", "", "curedShare", Edge.ARITHMETIC);
        Edge.due("1 a new object", "", "meanSinking", Edge.ARITHMETIC);
    }

    private static void groundArguments() {
        Edge.due("2 fewest rings", GROUND, "addGround 1 40 5", 5);
        Edge.due("2 some rings", GROUND, "addGround 26 40 5", 30);
        Edge.due("2 most rings", GROUND, "addGround 50 40 5", 54);
        Edge.outside("2 rings", GROUND, "addGround # 40 5", 1, 50, Edge.ARGUMENT);
        Edge.due("2 least need", "addGround 1 0 5", "needAt 0", 0);
        Edge.due("2 some need", "addGround 1 55 5", "needAt 0", 55);
        Edge.due("2 greatest need", "addGround 1 100 5", "needAt 0", 100);
        Edge.outside("2 need", GROUND, "addGround 2 # 5", 0, 100, Edge.ARGUMENT);
        Edge.due("2 least weakness", "addGround 1 40 0", "weaknessAt 0", 0);
        Edge.due("2 some weakness", "addGround 1 40 7", "weaknessAt 0", 7);
        Edge.due("2 greatest weakness", "addGround 1 40 20", "weaknessAt 0", 20);
        Edge.outside("2 weakness", GROUND, "addGround 2 40 #", 0, 20, Edge.ARGUMENT);
    }

    private static void groundIsFull() {
        Edge.due("2 just 200 rings", KNOWN_150, "addGround 50 1 1", 200);
        Edge.due("2 the 200th ring", KNOWN_199, "addGround 1 1 1", 200);
        Edge.due("2 a 201st ring", KNOWN_200, "addGround 1 1 1", Edge.STATE);
        Edge.due("2 two where one has room", KNOWN_199, "addGround 2 1 1", Edge.STATE);
        Edge.due("2 201 rings", KNOWN_150 + "; addGround 1 9 9", "addGround 50 1 1", Edge.STATE);
        Edge.due("2 many too many", KNOWN_200, "addGround 50 1 1", Edge.STATE);
        Edge.due("2 refused, and then fewer", KNOWN_199, "addGround 1 1 1", 200);
        Edge.outside("2 rings first", KNOWN_200, "addGround # 1 1", 1, 50, Edge.ARGUMENT);
        Edge.outside("2 need first", KNOWN_200, "addGround 1 # 1", 0, 100, Edge.ARGUMENT);
        Edge.outside("2 weakness first", KNOWN_200, "addGround 1 1 #", 0, 20, Edge.ARGUMENT);
        Edge.due("2 the plan has its own room", PLANNED_200, "addGround 50 1 1", 50);
    }

    private static void groundIsBehindWhatIsKnown() {
        String parts = "addGround 2 60 5; addGround 1 0 20; addGround 50 100 0";
        int[] ring = {0, 1, 2, 3, 52};
        int[] need = {60, 60, 0, 100, 100};
        int[] weakness = {5, 5, 20, 0, 0};
        for (int i = 0; i < ring.length; i++) {
            Edge.due("2 part by part", parts, "needAt " + ring[i], need[i]);
            Edge.due("2 part by part", parts, "weaknessAt " + ring[i], weakness[i]);
        }
        Edge.due("2 no more than these", parts, "needAt 53", Edge.INDEX);
        Edge.due("2 the last part", KNOWN_200, "needAt 198", 70);
        Edge.due("2 the last ring", KNOWN_200, "needAt 199", 80);
        String sunk = "addGround 1 60 10; stop 1; addGround 1 60 10";
        Edge.due("2 what has sunk stays", sunk, "sinkingAt 0", 2);
        Edge.due("2 new ground has not sunk", sunk, "sinkingAt 1", 0);
    }

    private static void bendArguments() {
        Edge.due("3 fewest rings", "addCurve 3 1 1", "addCurve 1 2 2", 4);
        Edge.due("3 some rings", "addCurve 3 1 1", "addCurve 26 2 2", 29);
        Edge.due("3 most rings", "addCurve 3 1 1", "addCurve 50 2 2", 53);
        Edge.outside("3 rings", GROUND, "addCurve # 2 2", 1, 50, Edge.ARGUMENT);
        int[][] bends = {{-5, 0, 5}, {5, 0, 5}, {0, -5, 5}, {0, 5, 5}, {0, 0, 0}, {-2, 3, 5},
            {-5, 5, 10}, {5, -5, 10}};
        for (int[] b : bends) {
            Edge.due("3 bends", "cast 0 0; addCurve 1 " + b[0] + " " + b[1], "deviationWith 0 0",
                    b[2]);
        }
        Edge.outside("3 bend to the side", GROUND, "addCurve 2 # 0", -5, 5, Edge.ARGUMENT);
        Edge.outside("3 bend upward", GROUND, "addCurve 2 0 #", -5, 5, Edge.ARGUMENT);
    }

    private static void planIsFull() {
        Edge.due("3 just 200 rings", PLANNED_150, "addCurve 50 1 1", 200);
        Edge.due("3 the 200th ring", PLANNED_199, "addCurve 1 1 1", 200);
        Edge.due("3 a 201st ring", PLANNED_200, "addCurve 1 1 1", Edge.STATE);
        Edge.due("3 two where one has room", PLANNED_199, "addCurve 2 1 1", Edge.STATE);
        Edge.due("3 201 rings", PLANNED_150 + "; addCurve 1 0 0", "addCurve 50 1 1", Edge.STATE);
        Edge.due("3 many too many", PLANNED_200, "addCurve 50 1 1", Edge.STATE);
        Edge.outside("3 rings first", PLANNED_200, "addCurve # 1 1", 1, 50, Edge.ARGUMENT);
        Edge.outside("3 to the side first", PLANNED_200, "addCurve 1 # 1", -5, 5, Edge.ARGUMENT);
        Edge.outside("3 upward first", PLANNED_200, "addCurve 1 1 #", -5, 5, Edge.ARGUMENT);
        Edge.due("3 the ground has its own room", KNOWN_200, "addCurve 50 1 1", 50);
        Edge.due("3 a plan beyond the ground", GROUND, "addCurve 5 1 1", 5);
    }

    private static void groundOfARing() {
        String laid = "addGround 2 40 15; cast 0 0; stop 24; addSlurry 100; lay 0 0";
        for (String call : new String[] {"needAt", "weaknessAt"}) {
            String due = call.equals("needAt") ? "40" : "15";
            Edge.due("4, 5 the first ring", GROUND, call + " 0", due);
            Edge.due("4, 5 the last ring", GROUND, call + " 3", due);
            Edge.outside("4, 5 a ring", GROUND, call + " #", 0, 3, Edge.INDEX);
            Edge.due("4, 5 a ring that is laid", laid, call + " 0", due);
            Edge.due("4, 5 a ring that is not", laid, call + " 1", due);
            Edge.due("4, 5 no ring", laid, call + " 2", Edge.INDEX);
            Edge.due("4, 5 the 201st ring", KNOWN_200, call + " 200", Edge.INDEX);
        }
        Edge.due("4 the 200th ring", KNOWN_200, "needAt 199", 80);
        Edge.due("5 the 200th ring", KNOWN_200, "weaknessAt 199", 14);
    }

    private static void houseRings() {
        Edge.due("6 above the first ring", GROUND, "addHouse 0 0 5 5", 0);
        Edge.due("6 above the last ring", GROUND, "addHouse 3 3 5 5", 0);
        Edge.due("6 above all rings", GROUND, "addHouse 0 3 5 5", 0);
        Edge.outside("6 first ring", GROUND, "addHouse # 3 5 5", 0, 3, Edge.INDEX);
        Edge.outside("6 last ring", GROUND, "addHouse 0 # 5 5", 0, 3, Edge.INDEX);
        Edge.outside("6 both rings", GROUND, "addHouse # # 5 5", 0, 3, Edge.INDEX);
        Edge.due("6 new ground", GROUND + "; addGround 1 0 0", "addHouse 0 4 5 5", 0);
        Edge.due("6 the 200th ring", KNOWN_200, "addHouse 199 199 5 5", 0);
        Edge.due("6 the 201st ring", KNOWN_200, "addHouse 199 200 5 5", Edge.INDEX);
        Edge.due("6 one ring", GROUND, "addHouse 2 2 5 5", 0);
        Edge.due("6 last one less", GROUND, "addHouse 2 1 5 5", Edge.ARGUMENT);
        Edge.due("6 last much less", GROUND, "addHouse 3 0 5 5", Edge.ARGUMENT);
    }

    /** Above ground that sinks by 1 each hour. */
    private static String houseThatSank(int limit, int rate, int millimetres) {
        return "addGround 1 55 10; addHouse 0 0 " + limit + " " + rate + "; stop 1 *"
                + millimetres;
    }

    private static void houseArguments() {
        Edge.due("6 least limit", houseThatSank(0, 5, 101), "claimOf 0", 101 * 5);
        Edge.due("6 some limit", houseThatSank(50, 5, 101), "claimOf 0", 51 * 5);
        Edge.due("6 greatest limit", houseThatSank(100, 5, 101), "claimOf 0", 5);
        Edge.outside("6 limit", GROUND, "addHouse 0 3 # 5", 0, 100, Edge.ARGUMENT);
        Edge.due("6 least rate", houseThatSank(0, 1, 3), "claimOf 0", 3);
        Edge.due("6 some rate", houseThatSank(0, 26, 3), "claimOf 0", 78);
        Edge.due("6 greatest rate", houseThatSank(0, 50, 3), "claimOf 0", 150);
        Edge.outside("6 rate", GROUND, "addHouse 0 3 5 #", 1, 50, Edge.ARGUMENT);
    }

    private static void housesAreFull() {
        Edge.due("6 a second one", GROUND + "; addHouse 0 0 0 1", "addHouse 0 0 0 1", 1);
        Edge.due("6 the eighth one", SEVEN, "addHouse 0 3 5 5", 7);
        Edge.due("6 a ninth one", EIGHT, "addHouse 0 3 5 5", Edge.STATE);
        Edge.due("6 still a ninth one", EIGHT + "; addGround 9 0 0", "addHouse 9 9 5 5",
                Edge.STATE);
    }

    private static void firstOfSeveral() {
        for (String before : new String[] {GROUND, EIGHT}) {
            for (String call : new String[] {"addHouse 4 0 5 5", "addHouse 0 -1 5 5",
                "addHouse -1 3 101 5", "addHouse -1 3 5 0", "addHouse 0 4 -1 5",
                "addHouse 0 4 5 51", "addHouse 5 4 -1 0", "addHouse -1 -2 101 51"}) {
                Edge.due("6 the ground is first", before, call, Edge.INDEX);
            }
        }
        for (String call : new String[] {"addHouse 2 1 5 5", "addHouse 0 3 -1 5",
            "addHouse 0 3 101 5", "addHouse 0 3 5 0", "addHouse 0 3 5 51", "addHouse 3 0 101 0"}) {
            Edge.due("6 arguments before the room", EIGHT, call, Edge.ARGUMENT);
        }
    }
}
