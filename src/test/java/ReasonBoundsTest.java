/** The boundary cases of promise 18, the reasons, and what they mean for promise 19. */
public final class ReasonBoundsTest {
    /** One ring is laid in position 0, the tank is empty, and so is the first stack. */
    private static final String LAID = "addGround 2 0 0; cast 0 0; stop 24; addSlurry 40; lay 0 0";

    public static void main(String[] args) {
        arguments();
        groundIsFirst();
        emptyIsSecond();
        curedIsThird();
        positionIsFourth();
        slurryIsFifth();
        toleranceIsLast();
        hoursOfCuring();
        fitting();
        slurryThatJustDoes();
        toleranceAtFirst();
        toleranceThatJustDoes();
        toleranceAtMost();
        Check.end();
    }

    private static void arguments() {
        String ready = Ready.tunnel(3, 40, 5);
        Edge.due("18 the first stack and position", ready, "reasonFor 0 0", "-");
        Edge.due("18 the last stack and position", ready, "reasonFor 2 7", "-");
        for (String before : new String[] {ready, "", LAID}) {
            Edge.outside("18 stack", before, "reasonFor # 0", 0, 2, Edge.INDEX);
            Edge.outside("18 stack before position", before, "reasonFor # 8", 0, 2, Edge.INDEX);
            Edge.outside("18 stack before position", before, "reasonFor # -1", 0, 2, Edge.INDEX);
            Edge.outside("18 position", before, "reasonFor 0 #", 0, 7, Edge.ARGUMENT);
        }
    }

    /** Such a reason is told, and the ring is not laid. */
    private static void against(char reason, String before, int stack, int position) {
        String ring = " " + stack + " " + position;
        Edge.due("18 reason", before, "reasonFor" + ring, reason);
        Edge.due("19 reason " + reason, before, "lay" + ring, Edge.UNSUPPORTED);
    }

    private static void none(String before, int stack, int position) {
        String ring = " " + stack + " " + position;
        Edge.due("18 no reason", before, "reasonFor" + ring, '-');
        Edge.due("19 no reason", before + "; lay" + ring, "clock",
                Integer.parseInt(Script.ask(Script.played(new Model(), before), "clock")) + 2);
    }

    private static void groundIsFirst() {
        against('g', "", 0, 0);
        against('g', "cast 0 9", 0, 0);
        against('g', "cast 0 9; stop 24", 0, 0);
        against('g', "cast 0 9; stop 24; setTolerance 0", 0, 0);
        String used = "addGround 1 0 0; cast 0 0; cast 0 0; stop 24; addSlurry 40; lay 0 0";
        against('g', used, 0, 0);
        against('g', used, 0, 4);
        against('g', used, 0, 1);
        against('g', used + "; addSlurry 500", 0, 1);
        against('g', used, 1, 1);
        none(used + "; addSlurry 500; addGround 1 0 0", 0, 1);
    }

    private static void emptyIsSecond() {
        against('e', "addGround 1 0 0", 0, 0);
        against('e', "addGround 1 0 0; addSlurry 500", 2, 7);
        against('e', LAID, 0, 0);
        against('e', LAID, 0, 4);
        against('e', LAID, 0, 1);
        against('e', "addGround 1 0 0; cast 0 0; stop 24; addSlurry 500; restack 0 1", 0, 0);
    }

    private static void curedIsThird() {
        against('c', LAID + "; cast 0 0", 0, 0);
        against('c', LAID + "; cast 0 0", 0, 4);
        against('c', LAID + "; cast 0 0", 0, 1);
        against('c', LAID + "; cast 0 9; addSlurry 500; setTolerance 0", 0, 1);
        against('c', "addGround 1 0 0; cast 0 9; setTolerance 0", 0, 1);
    }

    private static void positionIsFourth() {
        against('j', LAID + "; cast 0 0; stop 24", 0, 0);
        against('j', LAID + "; cast 0 0; stop 24", 0, 4);
        against('j', LAID + "; cast 0 0; stop 24; addSlurry 500", 0, 0);
        against('j', LAID + "; cast 0 9; stop 24; addSlurry 500; setTolerance 0", 0, 0);
        against('j', LAID + "; cast 0 9; stop 24; setTolerance 0", 0, 4);
    }

    private static void slurryIsFifth() {
        against('s', LAID + "; cast 0 0; stop 24", 0, 1);
        against('s', LAID + "; cast 0 9; stop 24; setTolerance 0", 0, 1);
        against('s', "addGround 1 0 0; cast 0 9; stop 24; setTolerance 0", 0, 0);
    }

    private static void toleranceIsLast() {
        String before = LAID + "; cast 0 9; stop 24; addSlurry 500; setTolerance 0";
        against('t', before, 0, 1);
        none(before + "; setTolerance 18", 0, 1);
    }

    private static void hoursOfCuring() {
        String cast = "addGround 1 0 0; addSlurry 500; cast 0 0; stop ";
        against('c', cast + "1", 0, 0);
        against('c', cast + "23", 0, 0);
        none(cast + "24", 0, 0);
        none(cast + "25", 0, 0);
        against('c', cast + "24; cast 0 0", 0, 0);
        against('c', cast + "23; restack 0 1", 1, 0);
        none(cast + "24; restack 0 1", 1, 0);
    }

    /** For the first ring, each position fits; then, neither the same nor the opposite one. */
    private static void fitting() {
        String ready = Ready.tunnel(3, 40, 5) + "; setTolerance 9999";
        for (int before = 0; before < 8; before++) {
            none(ready, 2, before);
            for (int position = 0; position < 8; position++) {
                String laid = ready + "; lay 1 " + before;
                if (position == before || position == (before + 4) % 8) {
                    against('j', laid, 2, position);
                } else {
                    none(laid, 2, position);
                }
            }
        }
        against('j', ready + "; lay 0 1; lay 1 3", 2, 7);
        none(ready + "; lay 0 1; lay 1 3", 2, 1);
        none(ready + "; lay 0 1; lay 1 3", 2, 5);
    }

    private static void slurryThatJustDoes() {
        String ready = "addGround 2 30 7; cast 0 0 *2; setPressure 55; stop 24; addSlurry ";
        against('s', ready + "21", 0, 0);
        none(ready + "22", 0, 0);
        none(ready + "23", 0, 0);
        Edge.due("19 the tank is empty", ready + "22; lay 0 0", "slurry", 0);
        against('s', ready + "43; lay 0 0", 0, 1);
        none(ready + "44; lay 0 0", 0, 1);
        none(ready + "21; setPressure 54", 0, 0);
        against('s', ready + "22; setPressure 56", 0, 0);
    }

    /** After three rings, the offsets are 18 and 54, the headings 9 and 27. */
    private static void toleranceAtFirst() {
        String laid = "addGround 4 0 0; setPressure 0; cast 0 7; cast 1 8; cast 2 4; cast 2 9 *3;"
                + "stop 24; addSlurry 500; lay 2 0; lay 2 1; lay 2 0";
        Edge.due("30 just 100", laid, "deviationWith 1 6", 100);
        Edge.due("30 just 101", laid, "deviationWith 0 6", 101);
        none(laid, 1, 6);
        none(laid, 2, 5);
        against('t', laid, 0, 6);
        none(laid + "; setTolerance 101", 0, 6);
        against('t', laid + "; setTolerance 99", 1, 6);
    }

    private static void toleranceThatJustDoes() {
        String ready = Ready.tunnel(3, 40, 5) + "; setTolerance ";
        none(ready + "0", 0, 0);
        against('t', ready + "0", 1, 0);
        none(ready + "1", 1, 0);
        against('t', ready + "1", 1, 1);
        none(ready + "2", 1, 1);
        against('t', ready + "11", 2, 5);
        none(ready + "12", 2, 5);
        against('t', ready + "4; addCurve 1 -2 3", 0, 0);
        none(ready + "5; addCurve 1 -2 3", 0, 0);
    }

    /** The plan leads 10080 to the side in 63 rings; 62 rings are laid, 80 of it go along with it. */
    private static void toleranceAtMost() {
        String far = far() + "; cast 1 0; cast 2 1; stop 24";
        Edge.due("30 just 9999", far, "deviationWith 2 2", 9999);
        Edge.due("30 just 10000", far, "deviationWith 1 2", 10000);
        none(far, 2, 2);
        against('t', far, 1, 2);
        against('t', far + "; setTolerance 9998", 2, 2);
    }

    private static String far() {
        StringBuilder calls = new StringBuilder("addGround 50 0 0 *2; addCurve 50 5 0 *2;"
                + "setPressure 0; setTolerance 9999; addSlurry 500 *2");
        for (int ring = 0; ring < 62; ring++) {
            boolean bends = ring == 0 || ring == 46;
            calls.append("; cast 0 ").append(bends ? 1 : 0).append("; stop 24; lay 0 ");
            calls.append(bends ? 2 : ring % 2);
        }
        return calls.toString();
    }
}
