/** Promises 1 to 6: a new object, ground, plan and houses. */
public final class GroundTest {
    public static void main(String[] args) {
        newObject();
        addGround();
        addCurve();
        needAndWeakness();
        addHouse();
        Check.end();
    }

    private static TunnelRing withGround(int rings) {
        TunnelRing t = new TunnelRing();
        t.addGround(rings, 40, 15);
        return t;
    }

    private static void newObject() {
        TunnelRing t = new TunnelRing();
        Check.same("1 clock", t.clock(), 0);
        Check.same("1 ringCount", t.ringCount(), 0);
        Check.same("1 slurry", t.slurry(), 0);
        Check.same("1 paidTotal", t.paidTotal(), 0L);
        Check.same("1 isConsistent", t.isConsistent(), true);
        for (int stack = 0; stack < 3; stack++) {
            Check.same("1 heightOf", t.heightOf(stack), 0);
        }
        Check.same("1 ground", Check.thrownBy(() -> t.needAt(0)), "IndexOutOfBoundsException");
        Check.same("1 line", Check.thrownBy(() -> t.lineAt(0)), "IndexOutOfBoundsException");
        Check.same("1 pressure", t.setPressure(7), 50);
        Check.same("1 tolerance", t.setTolerance(7), 100);
        Check.same("1 plan", t.addCurve(1, 0, 0), 1);
        TunnelRing other = new TunnelRing();
        Check.same("1 another object has its own pressure", other.setPressure(1), 50);
    }

    private static void addGround() {
        TunnelRing t = new TunnelRing();
        Check.same("2 least", t.addGround(1, 0, 0), 1);
        Check.same("2 greatest", t.addGround(50, 100, 20), 51);
        Check.same("2 more", t.addGround(50, 1, 1), 101);
        Check.same("2 more", t.addGround(50, 2, 2), 151);
        Check.same("2 too many", Check.thrownBy(() -> t.addGround(50, 2, 2)),
                "IllegalStateException");
        Check.same("2 argument before state", Check.thrownBy(() -> t.addGround(50, 101, 2)),
                "IllegalArgumentException");
        Check.same("2 the last", t.addGround(49, 3, 3), 200);
        Check.same("2 one too many", Check.thrownBy(() -> t.addGround(1, 0, 0)),
                "IllegalStateException");
        Check.same("2 need 50", t.needAt(50), 100);
        Check.same("2 need 51", t.needAt(51), 1);
        int[][] bad = {{0, 1, 1}, {51, 1, 1}, {-1, 1, 1}, {Integer.MAX_VALUE, 1, 1}, {1, -1, 1},
            {1, 101, 1}, {1, 1, -1}, {1, 1, 21}, {Integer.MIN_VALUE, 1, 1}};
        for (int[] b : bad) {
            Check.refuses("2 addGround", IllegalArgumentException.class, () -> withGround(3),
                    x -> x.addGround(b[0], b[1], b[2]));
        }
    }

    private static void addCurve() {
        TunnelRing t = new TunnelRing();
        Check.same("3 least", t.addCurve(1, -5, -5), 1);
        Check.same("3 greatest", t.addCurve(50, 5, 5), 51);
        Check.same("3 more", t.addCurve(50, 0, 0), 101);
        Check.same("3 more", t.addCurve(50, 0, 0), 151);
        Check.same("3 too many", Check.thrownBy(() -> t.addCurve(50, 0, 0)),
                "IllegalStateException");
        Check.same("3 argument before state", Check.thrownBy(() -> t.addCurve(50, 6, 0)),
                "IllegalArgumentException");
        Check.same("3 the last", t.addCurve(49, 0, 0), 200);
        Check.same("3 one too many", Check.thrownBy(() -> t.addCurve(1, 0, 0)),
                "IllegalStateException");
        int[][] bad = {{0, 1, 1}, {51, 1, 1}, {-3, 1, 1}, {Integer.MAX_VALUE, 1, 1}, {1, -6, 1},
            {1, 6, 1}, {1, 1, -6}, {1, 1, 6}};
        for (int[] b : bad) {
            Check.refuses("3 addCurve", IllegalArgumentException.class, () -> withGround(3),
                    x -> x.addCurve(b[0], b[1], b[2]));
        }
        bendsAreOneBehindTheOther();
    }

    private static void bendsAreOneBehindTheOther() {
        TunnelRing t = Tunnels.ready(4, 0, 0);
        t.addCurve(1, 2, -1);
        t.addCurve(2, -3, 4);
        t.lay(0, 0);
        t.lay(0, 2);
        t.lay(0, 0);
        t.lay(0, 2);
        Check.same("3 after the first bend", t.deviationAfter(0), 3);
        Check.same("3 after the second one", t.deviationAfter(1), 1 + 2);
        Check.same("3 after the third one", t.deviationAfter(2), 3 + 9);
        Check.same("3 no bend, the heading stays", t.deviationAfter(3), 7 + 16);
    }

    private static void needAndWeakness() {
        TunnelRing t = new TunnelRing();
        t.addGround(2, 60, 5);
        t.addGround(1, 0, 20);
        int[] need = {60, 60, 0};
        int[] weakness = {5, 5, 20};
        for (int ring = 0; ring < 3; ring++) {
            Check.same("4 needAt", t.needAt(ring), need[ring]);
            Check.same("5 weaknessAt", t.weaknessAt(ring), weakness[ring]);
        }
        for (int ring : new int[] {-1, 3, 200, Integer.MAX_VALUE, Integer.MIN_VALUE}) {
            Check.refuses("4 needAt", IndexOutOfBoundsException.class, () -> withGround(3),
                    x -> x.needAt(ring));
            Check.refuses("5 weaknessAt", IndexOutOfBoundsException.class, () -> withGround(3),
                    x -> x.weaknessAt(ring));
        }
        TunnelRing laid = Tunnels.ready(2, 30, 7);
        laid.lay(0, 1);
        Check.same("4 of a laid ring", laid.needAt(0), 30);
        Check.same("5 of a laid ring", laid.weaknessAt(0), 7);
    }

    private static void addHouse() {
        TunnelRing t = withGround(4);
        Check.same("6 one ring", t.addHouse(0, 0, 0, 1), 0);
        Check.same("6 all rings", t.addHouse(0, 3, 100, 50), 1);
        for (int house = 2; house < 8; house++) {
            Check.same("6 the same ground", t.addHouse(1, 2, 5, 5), house);
        }
        Check.same("6 a ninth one", Check.thrownBy(() -> t.addHouse(1, 2, 5, 5)),
                "IllegalStateException");
        Check.same("6 ground before state", Check.thrownBy(() -> t.addHouse(1, 4, 5, 5)),
                "IndexOutOfBoundsException");
        Check.same("6 argument before state", Check.thrownBy(() -> t.addHouse(1, 2, 5, 0)),
                "IllegalArgumentException");
        int[][] noGround = {{-1, 2, 5, 5}, {0, 4, 5, 5}, {4, 4, 5, 5}, {4, 0, 5, 5}, {0, -1, 5, 5},
            {0, 4, 101, 51}, {Integer.MAX_VALUE, 0, 1, 1}, {0, Integer.MIN_VALUE, 1, 1}};
        for (int[] b : noGround) {
            Check.refuses("6 addHouse", IndexOutOfBoundsException.class, () -> withGround(4),
                    x -> x.addHouse(b[0], b[1], b[2], b[3]));
        }
        int[][] bad = {{2, 1, 5, 5}, {0, 2, -1, 5}, {0, 2, 101, 5}, {0, 2, 5, 0}, {0, 2, 5, 51}};
        for (int[] b : bad) {
            Check.refuses("6 addHouse", IllegalArgumentException.class, () -> withGround(4),
                    x -> x.addHouse(b[0], b[1], b[2], b[3]));
        }
    }
}
