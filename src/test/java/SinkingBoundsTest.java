/** The boundary cases of promises 34 to 43, each sentence by itself. */
public final class SinkingBoundsTest {
    /** Above the four rings of ground, it sinks by 58, 37, 12 and 0; two rings are laid. */
    private static final String SUNK = Ready.tunnel(4, 53, 5)
            + "; setPressure 0; stop 4; lay 0 0; setPressure 4; lay 0 1";
    private static final String HOUSES = SUNK + "; addHouse 0 2 10 3; addHouse 1 1 36 50";
    private static final String EIGHT = "addGround 8 60 5; addHouse 0 7 0 1 *8; stop 3";
    /** Sinks by 1 each hour. */
    private static final String HOURLY = "addGround 1 55 10";

    public static void main(String[] args) {
        rings();
        houseNumbers();
        ringsOfAHouse();
        limits();
        claims();
        claimsAgain();
        greatestClaims();
        worst();
        means();
        consistent();
        Check.end();
    }

    private static void rings() {
        int[] due = {58, 37, 12, 0};
        for (int ring = 0; ring < 4; ring++) {
            Edge.due("34 a ring", SUNK, "sinkingAt " + ring, due[ring]);
        }
        Edge.outside("34 ring", SUNK, "sinkingAt #", 0, 3, Edge.INDEX);
        Edge.due("34 the 200th ring", "addGround 50 9 9 *4", "sinkingAt 199", 0);
        Edge.due("34 the 201st ring", "addGround 50 9 9 *4", "sinkingAt 200", Edge.INDEX);
    }

    private static void houseNumbers() {
        for (String call : new String[] {"sinkingOf", "tiltOf", "claimOf", "claim", "paidTo"}) {
            Edge.outside("35 to 39 house", HOUSES, call + " #", 0, 1, Edge.INDEX);
            Edge.outside("35 to 39 no house", SUNK, call + " #", 0, -1, Edge.INDEX);
            Edge.outside("35 to 39 eight houses", EIGHT, call + " #", 0, 7, Edge.INDEX);
            Edge.due("35 to 39 one house", HOURLY + "; addHouse 0 0 0 1; stop 3", call + " 1",
                    Edge.INDEX);
        }
        for (int house : new int[] {0, 7}) {
            Edge.due("35 of eight", EIGHT, "sinkingOf " + house, 3);
            Edge.due("36 of eight", EIGHT, "tiltOf " + house, 3);
            Edge.due("37 of eight", EIGHT, "claimOf " + house, 3);
            Edge.due("38 of eight", EIGHT, "claim " + house, 3);
            Edge.due("39 of eight", EIGHT, "paidTo " + house, 0);
            Edge.due("39 of eight", EIGHT + "; claim " + house, "paidTo " + house, 3);
            Edge.due("39 of eight", EIGHT + "; claim " + house, "paidTo " + (7 - house), 0);
        }
    }

    private static void ringsOfAHouse() {
        int[][] due = {{0, 0, 58, 0}, {0, 1, 58, 21}, {0, 2, 58, 46}, {0, 3, 58, 58},
            {1, 1, 37, 0}, {1, 2, 37, 25}, {1, 3, 37, 37}, {2, 3, 12, 12}, {3, 3, 0, 0}};
        for (int[] d : due) {
            String house = SUNK + "; addHouse " + d[0] + " " + d[1] + " 0 1";
            Edge.due("35 greatest sinking", house, "sinkingOf 0", d[2]);
            Edge.due("36 tilt", house, "tiltOf 0", d[3]);
        }
        String behind = HOURLY + "; addGround 1 60 10; addHouse 0 1 0 1; setPressure 100;"
                + "cast 0 0; stop 24; addSlurry 100; lay 0 0; setPressure 50; stop 4";
        Edge.due("35 the last ring is the deepest", behind, "sinkingOf 0", 8);
        Edge.due("36 the first ring is the least", behind, "tiltOf 0", 8);
        Edge.due("35 a house that came late", behind + "; addHouse 1 1 0 1", "sinkingOf 1", 8);
    }

    private static void limits() {
        int[][] due = {{35, 100}, {36, 50}, {37, 0}, {38, 0}, {100, 0}, {0, 37 * 50}};
        for (int[] d : due) {
            String house = SUNK + "; addHouse 1 1 " + d[0] + " 50";
            Edge.due("37 limit", house, "claimOf 0", d[1]);
            Edge.due("38 limit", house, "claim 0", d[1] == 0 ? Edge.UNSUPPORTED : d[1]);
            Edge.due("39 not paid yet", house, "paidTo 0", 0);
        }
        String house = HOURLY + "; addHouse 0 0 100 7; stop ";
        Edge.due("37 just the limit", house + "100", "claimOf 0", 0);
        Edge.due("38 just the limit", house + "100", "claim 0", Edge.UNSUPPORTED);
        Edge.due("37 one beyond", house + "100; stop 1", "claimOf 0", 7);
        Edge.due("38 one beyond", house + "100; stop 1", "claim 0", 7);
        Edge.due("37 nothing has sunk", HOURLY + "; addHouse 0 0 0 50", "claimOf 0", 0);
        Edge.due("38 nothing has sunk", HOURLY + "; addHouse 0 0 0 50", "claim 0",
                Edge.UNSUPPORTED);
    }

    private static void claims() {
        Edge.due("38 first", HOUSES, "claim 0", 144);
        Edge.due("38 second", HOUSES + "; claim 0", "claim 1", 50);
        Edge.due("37 paid", HOUSES + "; claim 0", "claimOf 0", 0);
        Edge.due("38 paid", HOUSES + "; claim 0", "claim 0", Edge.UNSUPPORTED);
        Edge.due("37 not the other one", HOUSES + "; claim 0", "claimOf 1", 50);
        Edge.due("39 paid", HOUSES + "; claim 0", "paidTo 0", 144);
        Edge.due("39 not the other one", HOUSES + "; claim 0", "paidTo 1", 0);
        Edge.due("40 no houses", SUNK, "paidTotal", 0);
        Edge.due("40 nothing is paid", HOUSES, "paidTotal", 0);
        Edge.due("40 one payment", HOUSES + "; claim 0", "paidTotal", 144);
        Edge.due("40 two payments", HOUSES + "; claim 0; claim 1", "paidTotal", 194);
    }

    private static void claimsAgain() {
        String paid = HOURLY + "; addHouse 0 0 2 7; stop 4; claim 0";
        Edge.due("38 nothing more", paid, "claim 0", Edge.UNSUPPORTED);
        Edge.due("38 one more", paid + "; stop 1", "claim 0", 7);
        Edge.due("39 both", paid + "; stop 1; claim 0", "paidTo 0", 21);
        Edge.due("40 both", paid + "; stop 1; claim 0", "paidTotal", 21);
        Edge.due("38 nothing more", paid + "; stop 1; claim 0", "claim 0", Edge.UNSUPPORTED);
        Edge.due("37 no sinking", paid + "; setPressure 55; stop 100", "claimOf 0", 0);
    }

    private static void greatestClaims() {
        String most = "addGround 1 100 20; addHouse 0 0 0 50 *8; setPressure 0; stop 100 *50";
        Edge.due("35 most", most, "sinkingOf 7", 200000);
        Edge.due("38 most", most, "claim 7", 10000000);
        Edge.due("40 most", most + "; claim 0; claim 1; claim 2; claim 3; claim 4; claim 5;"
                + "claim 6; claim 7", "paidTotal", 80000000);
    }

    private static void worst() {
        Edge.due("41 no houses", SUNK, "worstHouse", Edge.ELEMENT);
        Edge.due("41 one house that has not sunk", HOURLY + "; addHouse 0 0 0 1", "worstHouse", 0);
        Edge.due("41 all the same", EIGHT, "worstHouse", 0);
        String two = SUNK + "; addHouse 3 3 0 1; addHouse 2 2 0 1";
        Edge.due("41 the second one", two, "worstHouse", 1);
        Edge.due("41 two are the same", two + "; addHouse 2 3 0 1", "worstHouse", 1);
        Edge.due("41 the last one", two + "; addHouse 1 3 0 1", "worstHouse", 2);
        Edge.due("41 two are the same again", two + "; addHouse 1 3 0 1; addHouse 1 1 0 1",
                "worstHouse", 2);
        Edge.due("41 the eighth one", two + " *6; addHouse 0 0 100 1", "worstHouse", 7);
        Edge.due("41 what is paid does not count", two + "; claim 1", "worstHouse", 1);
        Edge.due("41 nor the limit", SUNK + "; addHouse 1 1 0 1; addHouse 0 0 100 1",
                "worstHouse", 1);
    }

    private static void means() {
        Edge.due("42 a new object", "", "meanSinking", Edge.ARITHMETIC);
        Edge.due("42 none is laid", HOURLY + "; stop 9", "meanSinking", Edge.ARITHMETIC);
        Edge.due("42 one ring", Ready.tunnel(2, 53, 5) + "; setPressure 0; lay 0 0", "meanSinking",
                "26.0");
        Edge.due("42 two rings", SUNK, "meanSinking", "47.5");
        Edge.due("42 three rings", SUNK + "; setPressure 60; lay 0 2", "meanSinking", 107.0 / 3.0);
        Edge.due("42 no sinking", Ready.tunnel(1, 53, 5) + "; lay 0 0", "meanSinking", "0.0");
    }

    private static void consistent() {
        Edge.due("43 no rings", "", "isConsistent", true);
        Edge.due("43 one ring", Ready.tunnel(1, 0, 0) + "; lay 1 5", "isConsistent", true);
        Edge.due("43 the first position", Ready.tunnel(2, 0, 0) + "; lay 1 0; lay 2 7",
                "isConsistent", true);
        Edge.due("43 the last position", Ready.tunnel(2, 0, 0) + "; lay 1 7; lay 2 0",
                "isConsistent", true);
        Edge.due("43 the same as the one before the last", Ready.tunnel(3, 0, 0)
                + "; lay 1 7; lay 2 0; lay 1 7", "isConsistent", true);
        Edge.due("43 two rings", SUNK, "isConsistent", true);
    }
}
