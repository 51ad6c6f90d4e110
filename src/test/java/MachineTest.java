import java.util.NoSuchElementException;

/** Promises 13 to 22: pressure, slurry, tolerance, reasons, laying, standing still. */
public final class MachineTest {
    private static final int[] NO_STACK = {-1, 3, Integer.MAX_VALUE, Integer.MIN_VALUE};
    private static final int[] NO_POSITION = {-1, 8, Integer.MAX_VALUE, Integer.MIN_VALUE};

    public static void main(String[] args) {
        settings();
        slurry();
        reasons();
        reasonsInOrder();
        fitting();
        lay();
        layRefused();
        stop();
        clockEnds();
        Check.end();
    }

    private static TunnelRing ready() {
        return Tunnels.ready(3, 40, 5);
    }

    private static void settings() {
        TunnelRing t = new TunnelRing();
        Check.same("13 first", t.setPressure(0), 50);
        Check.same("13 previous", t.setPressure(100), 0);
        Check.same("13 previous", t.setPressure(30), 100);
        Check.same("17 first", t.setTolerance(0), 100);
        Check.same("17 previous", t.setTolerance(9999), 0);
        Check.same("17 previous", t.setTolerance(5), 9999);
        Check.same("13 not the tolerance", t.setPressure(1), 30);
        for (int bad : new int[] {-1, 101, Integer.MAX_VALUE, Integer.MIN_VALUE}) {
            Check.refuses("13", IllegalArgumentException.class, MachineTest::ready,
                    x -> x.setPressure(bad));
        }
        for (int bad : new int[] {-1, 10000, Integer.MAX_VALUE, Integer.MIN_VALUE}) {
            Check.refuses("17", IllegalArgumentException.class, MachineTest::ready,
                    x -> x.setTolerance(bad));
        }
    }

    private static void slurry() {
        TunnelRing t = new TunnelRing();
        Check.same("14 least", t.addSlurry(1), 1);
        Check.same("14 greatest", t.addSlurry(500), 501);
        Check.same("15", t.slurry(), 501);
        Check.same("14 too much", Check.thrownBy(() -> t.addSlurry(500)), "IllegalStateException");
        Check.same("15 unchanged", t.slurry(), 501);
        Check.same("14 just full", t.addSlurry(499), 1000);
        Check.same("14 one more", Check.thrownBy(() -> t.addSlurry(1)), "IllegalStateException");
        Check.same("14 argument first", Check.thrownBy(() -> t.addSlurry(501)),
                "IllegalArgumentException");
        for (int bad : new int[] {0, -1, 501, Integer.MAX_VALUE, Integer.MIN_VALUE}) {
            Check.refuses("14", IllegalArgumentException.class, TunnelRing::new,
                    x -> x.addSlurry(bad));
        }
        slurryFor();
    }

    private static void slurryFor() {
        Check.refuses("16", NoSuchElementException.class, TunnelRing::new, TunnelRing::slurryFor);
        TunnelRing t = ready();
        int[][] due = {{0, 15}, {39, 15}, {60, 15}, {61, 16}, {100, 55}};
        for (int[] d : due) {
            t.setPressure(d[0]);
            Check.same("16 pressure " + d[0], t.slurryFor(), d[1]);
        }
        t.lay(0, 0);
        Check.same("15 after laying", t.slurry(), 945);
        t.addGround(1, 0, 20);
        t.setPressure(20);
        t.lay(0, 1);
        t.lay(0, 2);
        Check.same("15 after three", t.slurry(), 945 - 30);
        Check.same("16 the ground of the next ring", t.slurryFor(), 30);
        t.setPressure(21);
        Check.same("16 beyond the sum", t.slurryFor(), 31);
        t.lay(0, 3);
        Check.same("16 no more ground", Check.thrownBy(t::slurryFor), "NoSuchElementException");
    }

    private static void reasons() {
        TunnelRing t = new TunnelRing();
        Check.same("18 no ground", t.reasonFor(0, 0), 'g');
        t.addGround(3, 50, 4);
        Check.same("18 empty", t.reasonFor(0, 0), 'e');
        t.cast(0, 9);
        t.cast(0, 9);
        t.stop(23);
        Check.same("18 not cured", t.reasonFor(0, 0), 'c');
        t.stop(1);
        Check.same("18 no slurry", t.reasonFor(0, 0), 's');
        t.addSlurry(13);
        Check.same("18 one too few", t.reasonFor(0, 0), 's');
        t.addSlurry(1);
        Check.same("18 just enough", t.reasonFor(0, 0), '-');
        t.setTolerance(9);
        Check.same("18 just tolerated", t.reasonFor(0, 0), '-');
        Check.same("18 both offsets count", t.reasonFor(0, 1), 't');
        t.setTolerance(8);
        Check.same("18 not tolerated", t.reasonFor(0, 0), 't');
        t.setTolerance(9999);
        t.addSlurry(100);
        t.lay(0, 1);
        Check.same("18 the same position", t.reasonFor(0, 1), 'j');
        Check.same("18 the opposite one", t.reasonFor(0, 5), 'j');
        Check.same("18 the next one", t.reasonFor(0, 2), '-');
        for (int bad : NO_STACK) {
            Check.refuses("18 no stack", IndexOutOfBoundsException.class, MachineTest::ready,
                    x -> x.reasonFor(bad, 8));
        }
        for (int bad : NO_POSITION) {
            Check.refuses("18 no position", IllegalArgumentException.class, MachineTest::ready,
                    x -> x.reasonFor(0, bad));
            Check.refuses("18 position before reasons", IllegalArgumentException.class,
                    TunnelRing::new, x -> x.reasonFor(0, bad));
        }
    }

    /** Every reason applies at first, and one after the other is taken away. */
    private static void reasonsInOrder() {
        TunnelRing t = new TunnelRing();
        t.addGround(1, 0, 0);
        t.cast(0, 0);
        t.stop(24);
        t.addSlurry(40);
        t.lay(0, 0);
        t.setTolerance(0);
        t.cast(1, 9);
        Check.same("18 ground is first", t.reasonFor(0, 0), 'g');
        Check.same("18 ground is first", t.reasonFor(1, 0), 'g');
        t.addGround(1, 0, 0);
        Check.same("18 empty before position", t.reasonFor(0, 0), 'e');
        Check.same("18 cured before position", t.reasonFor(1, 0), 'c');
        Check.same("18 cured before slurry", t.reasonFor(1, 1), 'c');
        t.stop(24);
        Check.same("18 position before slurry", t.reasonFor(1, 4), 'j');
        Check.same("18 slurry before tolerance", t.reasonFor(1, 3), 's');
        t.addSlurry(500);
        Check.same("18 position before tolerance", t.reasonFor(1, 0), 'j');
        Check.same("18 tolerance", t.reasonFor(1, 3), 't');
        t.setTolerance(100);
        Check.same("18 none", t.reasonFor(1, 3), '-');
    }

    private static void fitting() {
        for (int before = 0; before < 8; before++) {
            TunnelRing t = ready();
            t.lay(0, before);
            for (int position = 0; position < 8; position++) {
                boolean opposite = (before + 4) % 8 == position;
                Check.same("18 " + position + " behind " + before, t.reasonFor(0, position),
                        position == before || opposite ? 'j' : '-');
            }
        }
    }

    private static void lay() {
        TunnelRing t = ready();
        t.setPressure(40);
        Check.same("19 first", t.lay(1, 3), 0);
        Check.same("19 takes two hours", t.clock(), 26);
        Check.same("19 takes slurry", t.slurry(), 985);
        Check.same("19 takes the top ring", t.heightOf(1), 3);
        Check.same("19 and leaves the next one", t.taperAt(1, 2), 2);
        Check.same("19 taper", t.taperOf(0), 1);
        Check.same("19 position", t.positionOf(0), 3);
        Check.same("22 one", t.ringCount(), 1);
        Check.same("19 pressure as needed: no sinking", t.sinkingAt(0), 0);
        Check.same("19 second", t.lay(2, 5), 1);
        Check.same("19 third", t.lay(0, 7), 2);
        Check.same("22 three", t.ringCount(), 3);
        Check.same("21 hours", t.clock(), 30);
    }

    private static void layRefused() {
        for (int bad : NO_STACK) {
            Check.refuses("19 no stack", IndexOutOfBoundsException.class, MachineTest::ready,
                    x -> x.lay(bad, 8));
        }
        for (int bad : NO_POSITION) {
            Check.refuses("19 no position", IllegalArgumentException.class, TunnelRing::new,
                    x -> x.lay(0, bad));
        }
        Check.refuses("19 no ground", UnsupportedOperationException.class, TunnelRing::new,
                x -> x.lay(0, 0));
        Check.refuses("19 not tolerated", UnsupportedOperationException.class, () -> {
            TunnelRing x = ready();
            x.setTolerance(1);
            return x;
        }, x -> x.lay(1, 1));
        Check.refuses("19 does not fit", UnsupportedOperationException.class, () -> {
            TunnelRing x = ready();
            x.lay(0, 6);
            return x;
        }, x -> x.lay(1, 2));
    }

    private static TunnelRing late(int hour) {
        TunnelRing t = ready();
        while (t.clock() + 100 <= hour) {
            t.stop(100);
        }
        if (t.clock() < hour) {
            t.stop(hour - t.clock());
        }
        return t;
    }

    private static void stop() {
        TunnelRing t = new TunnelRing();
        Check.same("20 least", t.stop(1), 1);
        Check.same("20 greatest", t.stop(100), 101);
        Check.same("21", t.clock(), 101);
        for (int bad : new int[] {0, -1, 101, Integer.MAX_VALUE, Integer.MIN_VALUE}) {
            Check.refuses("20", IllegalArgumentException.class, MachineTest::ready,
                    x -> x.stop(bad));
        }
        standingSinksTheNextGround();
    }

    private static void standingSinksTheNextGround() {
        TunnelRing t = Tunnels.ready(3, 57, 9);
        t.setPressure(50);
        t.stop(10);
        Check.same("20 each hour is rounded down", t.sinkingAt(0), 10);
        Check.same("20 the next ring alone", t.sinkingAt(1), 0);
        t.setPressure(57);
        t.stop(10);
        Check.same("20 enough pressure", t.sinkingAt(0), 10);
        TunnelRing whole = Tunnels.ready(1, 60, 5);
        whole.setPressure(50);
        whole.stop(1);
        Check.same("20 divided by 50", whole.sinkingAt(0), 1);
        t.lay(0, 0);
        t.setPressure(0);
        t.stop(3);
        Check.same("20 not the ring that is laid", t.sinkingAt(0), 10);
        Check.same("20 the next one", t.sinkingAt(1), 30);
        t.setPressure(57);
        t.lay(0, 1);
        t.lay(0, 2);
        t.setPressure(0);
        Check.same("20 no ground ahead", t.stop(100), t.clock());
        Check.same("20 nothing sinks", t.sinkingAt(2), 0);
    }

    private static void clockEnds() {
        TunnelRing t = late(4997);
        Check.same("20 too long", Check.thrownBy(() -> t.stop(4)), "IllegalStateException");
        Check.same("20 argument first", Check.thrownBy(() -> t.stop(101)),
                "IllegalArgumentException");
        Check.same("20 the last hour", t.stop(3), 5000);
        Check.same("20 none more", Check.thrownBy(() -> t.stop(1)), "IllegalStateException");
        Check.same("21 at the end", t.clock(), 5000);
        TunnelRing laying = late(4998);
        Check.same("19 just in time", laying.lay(0, 0), 0);
        Check.same("21 at the end", laying.clock(), 5000);
        Check.refuses("19 too late", IllegalStateException.class, () -> late(4999),
                x -> x.lay(0, 0));
        Check.refuses("19 reason first", UnsupportedOperationException.class, () -> {
            TunnelRing x = late(5000);
            x.setTolerance(0);
            return x;
        }, x -> x.lay(1, 0));
        Check.same("18 the clock is no reason", late(5000).reasonFor(0, 0), '-');
    }
}
