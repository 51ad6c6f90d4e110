/** The boundary cases of promises 13 to 17 and 19 to 22, each sentence by itself. */
public final class MachineBoundsTest {
    private static final String READY = Ready.tunnel(3, 40, 5);

    public static void main(String[] args) {
        pressure();
        tolerance();
        volume();
        tank();
        slurryTaken();
        slurryTakenBeyond();
        layArguments();
        lastHourOfLaying();
        stopArguments();
        lastHourOfStanding();
        countOfRings();
        Check.end();
    }

    private static void pressure() {
        Edge.due("13 at first", "", "setPressure 30", 50);
        Edge.due("13 least", "setPressure 0", "setPressure 30", 0);
        Edge.due("13 some", "setPressure 61", "setPressure 30", 61);
        Edge.due("13 greatest", "setPressure 100", "setPressure 30", 100);
        Edge.due("13 the same again", "setPressure 100", "setPressure 100", 100);
        Edge.outside("13 pressure", READY, "setPressure #", 0, 100, Edge.ARGUMENT);
        Edge.outside("13 pressure", "", "setPressure #", 0, 100, Edge.ARGUMENT);
    }

    private static void tolerance() {
        Edge.due("17 at first", "", "setTolerance 30", 100);
        Edge.due("17 least", "setTolerance 0", "setTolerance 30", 0);
        Edge.due("17 some", "setTolerance 610", "setTolerance 30", 610);
        Edge.due("17 greatest", "setTolerance 9999", "setTolerance 30", 9999);
        Edge.due("17 the same again", "setTolerance 9999", "setTolerance 9999", 9999);
        Edge.outside("17 tolerance", READY, "setTolerance #", 0, 9999, Edge.ARGUMENT);
        Edge.outside("17 tolerance", "", "setTolerance #", 0, 9999, Edge.ARGUMENT);
    }

    private static void volume() {
        Edge.due("14 least", "addSlurry 7", "addSlurry 1", 8);
        Edge.due("14 some", "addSlurry 7", "addSlurry 250", 257);
        Edge.due("14 greatest", "addSlurry 7", "addSlurry 500", 507);
        Edge.outside("14 volume", "addSlurry 7", "addSlurry #", 1, 500, Edge.ARGUMENT);
        Edge.outside("14 volume before the tank", READY, "addSlurry #", 1, 500, Edge.ARGUMENT);
    }

    private static void tank() {
        String most = "addSlurry 500; addSlurry 499";
        Edge.due("15 empty", "", "slurry", 0);
        Edge.due("14 just 1000", "addSlurry 500", "addSlurry 500", 1000);
        Edge.due("14 the last one", most, "addSlurry 1", 1000);
        Edge.due("14 two where one has room", most, "addSlurry 2", Edge.STATE);
        Edge.due("14 1001", "addSlurry 500; addSlurry 1", "addSlurry 500", Edge.STATE);
        Edge.due("14 one more than full", READY, "addSlurry 1", Edge.STATE);
        Edge.due("14 far more than full", READY, "addSlurry 500", Edge.STATE);
        Edge.due("15 full", READY, "slurry", 1000);
        Edge.due("14 as much as a ring took", READY + "; lay 0 0", "addSlurry 55", 1000);
        Edge.due("14 one more than it took", READY + "; lay 0 0", "addSlurry 56", Edge.STATE);
    }

    private static String ground(int need, int weakness, int pressure) {
        return "addGround 1 " + need + " " + weakness + "; setPressure " + pressure;
    }

    private static void slurryTaken() {
        Edge.due("16 no ground", "", "slurryFor", Edge.ELEMENT);
        Edge.due("16 no ground any more", Ready.tunnel(1, 0, 0) + "; lay 0 0", "slurryFor",
                Edge.ELEMENT);
        Edge.due("16 the last ground", Ready.tunnel(2, 80, 3) + "; lay 0 0", "slurryFor", 13);
        Edge.due("16 ground anew", Ready.tunnel(1, 0, 0) + "; lay 0 0; addGround 1 80 4",
                "slurryFor", 14);
        Edge.due("16 least", ground(0, 0, 0), "slurryFor", 10);
        Edge.due("16 greatest weakness", ground(0, 20, 0), "slurryFor", 30);
        Edge.due("16 the pressure at first", "addGround 1 29 0", "slurryFor", 11);
        Edge.due("16 less than needed", ground(60, 5, 59), "slurryFor", 15);
    }

    private static void slurryTakenBeyond() {
        Edge.due("16 just the sum", ground(40, 5, 60), "slurryFor", 15);
        Edge.due("16 one beyond the sum", ground(40, 5, 61), "slurryFor", 16);
        Edge.due("16 one below the sum", ground(40, 5, 59), "slurryFor", 15);
        Edge.due("16 the sum is 100", ground(80, 0, 100), "slurryFor", 10);
        Edge.due("16 the sum is 99", ground(79, 0, 100), "slurryFor", 11);
        Edge.due("16 the sum is more than any pressure", ground(100, 20, 100), "slurryFor", 30);
        Edge.due("16 most", ground(0, 20, 100), "slurryFor", 110);
        Edge.due("16 the sum is 20", ground(0, 0, 20), "slurryFor", 10);
        Edge.due("16 one beyond 20", ground(0, 0, 21), "slurryFor", 11);
        Edge.due("19 most is taken", "addGround 1 0 20; cast 0 0; setPressure 100; stop 24;"
                + "addSlurry 110; lay 0 0", "slurry", 0);
    }

    private static void layArguments() {
        Edge.due("19 the first stack and position", READY, "lay 0 0", 0);
        Edge.due("19 the last stack and position", READY, "lay 2 7", 0);
        Edge.due("19 the last ground", READY + "; lay 0 0; lay 0 1", "lay 2 7", 2);
        Edge.outside("19 stack", READY, "lay # 0", 0, 2, Edge.INDEX);
        Edge.outside("19 position", READY, "lay 0 #", 0, 7, Edge.ARGUMENT);
        Edge.outside("19 stack before position", READY, "lay # 8", 0, 2, Edge.INDEX);
        Edge.outside("19 stack before position", READY, "lay # -1", 0, 2, Edge.INDEX);
        Edge.outside("19 stack before reasons", "", "lay # 0", 0, 2, Edge.INDEX);
        Edge.outside("19 position before reasons", "", "lay 0 #", 0, 7, Edge.ARGUMENT);
        Edge.outside("19 stack before the clock", Ready.late(5000), "lay # 0", 0, 2, Edge.INDEX);
        Edge.outside("19 position before the clock", Ready.late(5000), "lay 0 #", 0, 7,
                Edge.ARGUMENT);
    }

    private static void lastHourOfLaying() {
        Edge.due("19 hour 5000", Ready.late(4998), "lay 0 0", 0);
        Edge.due("21 hour 5000", Ready.late(4998) + "; lay 0 0", "clock", 5000);
        Edge.due("19 an hour before", Ready.late(4997), "lay 0 0", 0);
        Edge.due("19 hour 5001", Ready.late(4999), "lay 0 0", Edge.STATE);
        Edge.due("19 hour 5001, weak ground", Ready.late(4999) + "; setPressure 0", "lay 0 0",
                Edge.STATE);
        Edge.due("19 hour 5002", Ready.late(5000), "lay 0 0", Edge.STATE);
        Edge.due("19 hour 5002, behind a ring", Ready.late(4998) + "; lay 0 0", "lay 1 1",
                Edge.STATE);
        Edge.due("19 reasons before the clock", Ready.late(4999) + "; setTolerance 0", "lay 1 0",
                Edge.UNSUPPORTED);
        Edge.due("19 reasons before the clock", Ready.late(4998) + "; lay 0 0", "lay 0 4",
                Edge.UNSUPPORTED);
        Edge.due("19 reasons before the clock", Ready.late(4998) + "; lay 0 0; cast 0 0",
                "lay 0 1", Edge.UNSUPPORTED);
        Edge.due("18 the clock is no reason", Ready.late(5000), "reasonFor 0 0", "-");
    }

    private static void stopArguments() {
        Edge.due("20 least", "stop 5", "stop 1", 6);
        Edge.due("20 some", "stop 5", "stop 50", 55);
        Edge.due("20 greatest", "stop 5", "stop 100", 105);
        Edge.outside("20 hours", READY, "stop #", 1, 100, Edge.ARGUMENT);
        Edge.outside("20 hours before the clock", Ready.late(5000), "stop #", 1, 100,
                Edge.ARGUMENT);
        Edge.outside("20 hours, ground ahead", "addGround 1 100 20", "stop #", 1, 100,
                Edge.ARGUMENT);
    }

    private static void lastHourOfStanding() {
        Edge.due("20 hour 5000", Ready.late(4999), "stop 1", 5000);
        Edge.due("20 hour 5000 from far", Ready.late(4924) + "; stop 1 *2", "stop 74", 5000);
        Edge.due("20 hour 5000 in 100 hours", "stop 100 *49", "stop 100", 5000);
        Edge.due("20 hour 5001 in 100 hours", "stop 100 *49; stop 1", "stop 100", Edge.STATE);
        Edge.due("20 hour 5001", Ready.late(4999), "stop 2", Edge.STATE);
        Edge.due("20 hour 5001 from 5000", Ready.late(5000), "stop 1", Edge.STATE);
        Edge.due("20 hour 5100", Ready.late(5000), "stop 100", Edge.STATE);
        Edge.due("20 hour 4999", Ready.late(4998), "stop 1", 4999);
        Edge.due("21 hour 5000", Ready.late(5000), "clock", 5000);
        Edge.due("20 refused, ground ahead", "addGround 1 100 20; addHouse 0 0 0 1; stop 100 *49;"
                + "stop 99", "stop 2", Edge.STATE);
        Edge.due("20 after laying", Ready.late(4998) + "; lay 0 0", "stop 1", Edge.STATE);
    }

    private static void countOfRings() {
        Edge.due("22 none", READY, "ringCount", 0);
        Edge.due("22 one", READY + "; lay 0 0", "ringCount", 1);
        Edge.due("22 three", READY + "; lay 0 0; lay 1 1; lay 0 0", "ringCount", 3);
        Edge.due("21 none has passed", "", "clock", 0);
        Edge.due("21 two hours for each ring", READY + "; lay 0 0; lay 1 1; lay 0 0", "clock", 30);
    }
}
