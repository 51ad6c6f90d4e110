import java.util.NoSuchElementException;
import java.util.function.BiConsumer;

/** Promises 23 to 33: the line of the rings, and what could come next. */
public final class LineTest {
    private static final int[] NO_STACK = {-1, 3, Integer.MAX_VALUE, Integer.MIN_VALUE};
    private static final int[] SIDE = {0, 1, 1, 1, 0, -1, -1, -1};
    private static final int[] UP = {1, 1, 0, -1, -1, -1, 0, 1};

    public static void main(String[] args) {
        rings();
        everyPosition();
        ringsThatAreNotLaid();
        deviation();
        deviationWith();
        bestPosition();
        least();
        beyondTheGround();
        Check.end();
    }

    private static TunnelRing laid() {
        TunnelRing t = Tunnels.ready(6, 0, 0);
        t.addCurve(2, 1, -2);
        t.lay(2, 1);
        t.lay(1, 3);
        t.lay(2, 6);
        return t;
    }

    private static void rings() {
        TunnelRing t = laid();
        int[] position = {1, 3, 6};
        int[] taper = {6, 1, 7};
        int[] x = {6, 13, 13};
        int[] y = {6, 11, 16};
        for (int ring = 0; ring < 3; ring++) {
            Check.same("23 positionOf", t.positionOf(ring), position[ring]);
            Check.same("24 taperOf", t.taperOf(ring), taper[ring]);
            Check.same("25 xAfter", t.xAfter(ring), x[ring]);
            Check.same("26 yAfter", t.yAfter(ring), y[ring]);
            Check.same("27 xAnew", t.xAnew(ring), x[ring]);
            Check.same("28 yAnew", t.yAnew(ring), y[ring]);
        }
        Check.same("22 ringCount", t.ringCount(), 3);
        Check.same("28 yAnew alone", laid().yAnew(1), 11);
        Check.same("27 xAnew alone", laid().xAnew(1), 13);
    }

    private static void everyPosition() {
        for (int position = 0; position < 8; position++) {
            TunnelRing t = Tunnels.ready(1, 0, 0);
            t.lay(2, position);
            Check.same("25 position " + position, t.xAfter(0), 6 * SIDE[position]);
            Check.same("26 position " + position, t.yAfter(0), 6 * UP[position]);
            Check.same("27 position " + position, t.xAnew(0), 6 * SIDE[position]);
            Check.same("28 position " + position, t.yAnew(0), 6 * UP[position]);
        }
    }

    private static void ringsThatAreNotLaid() {
        for (int ring : new int[] {-1, 3, 5, 200, Integer.MAX_VALUE, Integer.MIN_VALUE}) {
            notLaid("23", ring, TunnelRing::positionOf);
            notLaid("24", ring, TunnelRing::taperOf);
            notLaid("25", ring, TunnelRing::xAfter);
            notLaid("26", ring, TunnelRing::yAfter);
            notLaid("27", ring, TunnelRing::xAnew);
            notLaid("28", ring, TunnelRing::yAnew);
            notLaid("29", ring, TunnelRing::deviationAfter);
        }
    }

    private static void notLaid(String promise, int ring, BiConsumer<TunnelRing, Integer> call) {
        Check.refuses(promise + " ring " + ring, IndexOutOfBoundsException.class, LineTest::laid,
                x -> call.accept(x, ring));
    }

    private static void deviation() {
        TunnelRing t = laid();
        Check.same("29 first", t.deviationAfter(0), 5 + 8);
        Check.same("29 second", t.deviationAfter(1), 10 + 17);
        Check.same("29 no bend is planned", t.deviationAfter(2), 8 + 26);
        t.addCurve(1, 5, -5);
        Check.same("29 a bend that is planned later", t.deviationAfter(2), 3 + 31);
        Check.same("29 those before stay", t.deviationAfter(1), 10 + 17);
        t.addCurve(1, 5, 5);
        Check.same("29 a bend further on", t.deviationAfter(2), 3 + 31);
    }

    private static void deviationWith() {
        TunnelRing t = laid();
        Check.same("30 straight on", t.deviationWith(0, 0), Math.abs(13 - 7) + Math.abs(21 + 14));
        Check.same("30 one that does not fit", t.deviationWith(2, 6), Math.abs(5 - 7) + 35);
        Check.same("30 to the other side", t.deviationWith(2, 2), Math.abs(21 - 7) + 35);
        t.addCurve(2, 4, 0);
        Check.same("30 the plan of the next ring", t.deviationWith(2, 2), Math.abs(21 - 19) + 35);
        TunnelRing bare = new TunnelRing();
        bare.cast(1, 7);
        Check.same("30 without ground, not cured", bare.deviationWith(1, 5), 14);
        Check.same("30 nothing is laid", bare.ringCount(), 0);
        for (int bad : NO_STACK) {
            Check.refuses("30 no stack", IndexOutOfBoundsException.class, LineTest::laid,
                    x -> x.deviationWith(bad, 8));
        }
        for (int bad : new int[] {-1, 8, Integer.MAX_VALUE}) {
            Check.refuses("30 no position", IllegalArgumentException.class, TunnelRing::new,
                    x -> x.deviationWith(0, bad));
        }
        Check.refuses("30 empty", NoSuchElementException.class, TunnelRing::new,
                x -> x.deviationWith(0, 0));
    }

    private static void bestPosition() {
        TunnelRing t = Tunnels.ready(3, 0, 0);
        Check.same("31 all the same: the lowest", t.bestPosition(0), 0);
        Check.same("31 the lowest straight one", t.bestPosition(2), 0);
        t.addCurve(3, 5, -5);
        Check.same("31 along the plan", t.bestPosition(2), 3);
        t.lay(2, 3);
        Check.same("31 the best one does not fit", t.bestPosition(1), 2);
        Check.same("31 the lowest that fits", t.bestPosition(0), 0);
        t.lay(0, 0);
        Check.same("31 neither same nor opposite", t.bestPosition(0), 1);
        TunnelRing single = new TunnelRing();
        single.addCurve(1, -5, 0);
        single.cast(2, 9);
        Check.same("31 a single ring, no ground, not cured", single.bestPosition(2), 6);
        Check.refuses("31 empty", NoSuchElementException.class, TunnelRing::new,
                x -> x.bestPosition(2));
        for (int bad : NO_STACK) {
            Check.refuses("31 no stack", IndexOutOfBoundsException.class, LineTest::laid,
                    x -> x.bestPosition(bad));
        }
    }

    private static void least() {
        TunnelRing t = Tunnels.ready(6, 0, 0);
        t.addCurve(6, 3, -2);
        int[] plain = {5, 15, 30, 50};
        int[] small = {3, 9, 14, 20};
        for (int count = 1; count <= 4; count++) {
            Check.same("32 without tapers", t.leastDeviation(0, count), plain[count - 1]);
            Check.same("33 without tapers", t.leastByTrying(0, count), plain[count - 1]);
            Check.same("32 " + count, t.leastDeviation(1, count), small[count - 1]);
            Check.same("33 " + count, t.leastByTrying(1, count), small[count - 1]);
        }
        t.lay(1, 3);
        Check.same("32 fits to the ring before", t.leastDeviation(1, 1), 9);
        Check.same("33 fits to the ring before", t.leastByTrying(1, 1), 9);
        leastUpward();
        leastRefused();
    }

    /** Each ring would best go straight upward, but two one behind the other do not fit. */
    private static void leastUpward() {
        int[] due = {3, 8, 14, 20};
        for (int count = 1; count <= 4; count++) {
            Check.same("32 upward " + count, upward().leastDeviation(1, count), due[count - 1]);
            Check.same("33 upward " + count, upward().leastByTrying(1, count), due[count - 1]);
        }
        TunnelRing t = Tunnels.ready(6, 0, 0);
        t.lay(2, 0);
        Check.same("33 behind a ring", t.leastByTrying(2, 1), 12);
        Check.same("32 behind a ring", t.leastDeviation(2, 2), 10);
        Check.same("32 one ring behind a ring", t.leastDeviation(2, 1), 12);
        Check.same("33 two rings behind a ring", t.leastByTrying(2, 2), 10);
    }

    private static TunnelRing upward() {
        TunnelRing t = Tunnels.ready(6, 0, 0);
        t.addCurve(6, 0, 4);
        return t;
    }

    private static void leastRefused() {
        for (int bad : NO_STACK) {
            Check.refuses("32 no stack", IndexOutOfBoundsException.class, LineTest::laid,
                    x -> x.leastDeviation(bad, 0));
            Check.refuses("33 no stack", IndexOutOfBoundsException.class, LineTest::laid,
                    x -> x.leastByTrying(bad, 0));
        }
        for (int bad : new int[] {0, -1, 5, Integer.MAX_VALUE, Integer.MIN_VALUE}) {
            Check.refuses("32 count", IllegalArgumentException.class, TunnelRing::new,
                    x -> x.leastDeviation(0, bad));
            Check.refuses("33 count", IllegalArgumentException.class, TunnelRing::new,
                    x -> x.leastByTrying(0, bad));
        }
        Check.refuses("32 too few", NoSuchElementException.class, LineTest::laid,
                x -> x.leastDeviation(1, 4));
        Check.refuses("33 too few", NoSuchElementException.class, LineTest::laid,
                x -> x.leastByTrying(1, 4));
        TunnelRing t = laid();
        Check.same("32 just enough", t.leastDeviation(1, 3), t.leastByTrying(1, 3));
    }

    /** 200 rings, the last one with planned bends; then, no ground and no plan. */
    private static void beyondTheGround() {
        TunnelRing t = new TunnelRing();
        for (int part = 0; part < 4; part++) {
            t.addGround(50, 0, 0);
            t.addCurve(50, 0, part == 3 ? 1 : 0);
        }
        t.setPressure(0);
        t.setTolerance(9999);
        int laid = 0;
        while (laid < 200) {
            for (int ring = 0; ring < 12; ring++) {
                t.cast(0, 0);
            }
            t.stop(24);
            if (t.slurry() <= 500) {
                t.addSlurry(500);
            }
            for (int ring = 0; ring < 12 && laid < 200; ring++) {
                Check.same("19 ring", t.lay(0, laid % 2), laid);
                laid++;
            }
        }
        Check.same("18 no ground is left", t.reasonFor(0, 0), 'g');
        Check.same("29 the last ring", t.deviationAfter(199), 50 * 51 / 2);
        Check.same("30 no bend is planned", t.deviationWith(0, 3), 50 * 51 / 2 + 50);
        Check.same("32 nor later", t.leastDeviation(0, 4), 50 * 51 / 2 + 4 * 50);
        Check.same("33 nor later", t.leastByTrying(0, 4), 50 * 51 / 2 + 4 * 50);
        Check.same("31 the lowest that fits", t.bestPosition(0), 0);
        Check.same("43 consistent", t.isConsistent(), true);
        Check.same("44 the last rings", t.writeRings(195), 19);
    }
}
