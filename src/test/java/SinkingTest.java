import java.util.NoSuchElementException;
import java.util.function.BiConsumer;

/** Promises 34 to 43: sinking and claims. */
public final class SinkingTest {
    public static void main(String[] args) {
        sinkingAt();
        neighbours();
        houses();
        housesThatAreNot();
        claims();
        worstHouse();
        meanSinking();
        consistent();
        Check.end();
    }

    /** Ground sinks by 60, 36 and 13 above its first rings. */
    private static TunnelRing sunk() {
        TunnelRing t = Tunnels.ready(4, 53, 5);
        t.addHouse(0, 2, 10, 3);
        t.addHouse(1, 1, 36, 50);
        t.addHouse(2, 3, 0, 1);
        t.setPressure(0);
        t.stop(4);
        t.lay(0, 0);
        t.setPressure(4);
        t.lay(0, 1);
        return t;
    }

    private static void sinkingAt() {
        TunnelRing t = sunk();
        int[] due = {20 + 26 + 12, 13 + 24, 12, 0};
        for (int ring = 0; ring < 4; ring++) {
            Check.same("34 ring " + ring, t.sinkingAt(ring), due[ring]);
        }
        for (int ring : new int[] {-1, 4, 200, Integer.MAX_VALUE, Integer.MIN_VALUE}) {
            Check.refuses("34 no ground", IndexOutOfBoundsException.class, SinkingTest::sunk,
                    x -> x.sinkingAt(ring));
        }
        t.addGround(1, 0, 0);
        Check.same("34 new ground", t.sinkingAt(4), 0);
    }

    private static void neighbours() {
        TunnelRing t = new TunnelRing();
        t.addGround(1, 100, 20);
        t.addGround(1, 100, 1);
        t.cast(0, 0);
        t.cast(0, 0);
        t.setPressure(100);
        t.stop(24);
        t.addSlurry(500);
        t.setPressure(1);
        t.lay(0, 0);
        Check.same("34 the weakness of the ring", t.sinkingAt(0), 198);
        Check.same("34 half of it", t.sinkingAt(1), 99);
        t.lay(0, 1);
        Check.same("34 rounded down", t.sinkingAt(1), 99 + 9);
        Check.same("34 half, rounded down", t.sinkingAt(0), 198 + 4);
        t.addGround(1, 0, 0);
        Check.same("34 ground that came later", t.sinkingAt(2), 0);
    }

    private static void houses() {
        TunnelRing t = sunk();
        int[] greatest = {58, 37, 12};
        int[] tilt = {46, 0, 12};
        int[] claim = {48 * 3, 50, 12};
        for (int house = 0; house < 3; house++) {
            Check.same("35 house " + house, t.sinkingOf(house), greatest[house]);
            Check.same("36 house " + house, t.tiltOf(house), tilt[house]);
            Check.same("37 house " + house, t.claimOf(house), claim[house]);
            Check.same("39 house " + house, t.paidTo(house), 0);
        }
    }

    private static void housesThatAreNot() {
        for (int house : new int[] {-1, 3, 8, Integer.MAX_VALUE, Integer.MIN_VALUE}) {
            noHouse("35", house, TunnelRing::sinkingOf);
            noHouse("36", house, TunnelRing::tiltOf);
            noHouse("37", house, TunnelRing::claimOf);
            noHouse("38", house, TunnelRing::claim);
            noHouse("39", house, TunnelRing::paidTo);
        }
    }

    private static void noHouse(String promise, int house, BiConsumer<TunnelRing, Integer> call) {
        Check.refuses(promise + " house " + house, IndexOutOfBoundsException.class,
                SinkingTest::sunk, x -> call.accept(x, house));
    }

    private static void claims() {
        TunnelRing t = sunk();
        Check.same("38 first", t.claim(0), 144);
        Check.same("37 paid", t.claimOf(0), 0);
        Check.same("38 twice", Check.thrownBy(() -> t.claim(0)), "UnsupportedOperationException");
        Check.same("39 paid", t.paidTo(0), 144);
        Check.same("40 one house", t.paidTotal(), 144L);
        Check.same("38 another house", t.claim(1), 50);
        Check.same("40 two houses", t.paidTotal(), 194L);
        t.setPressure(0);
        t.lay(0, 2);
        Check.same("37 more sinking", t.claimOf(0), 0);
        Check.same("37 what is more", t.claimOf(1), 13 * 50);
        Check.same("38 what is more", t.claim(1), 13 * 50);
        Check.same("39 both", t.paidTo(1), 14 * 50);
        Check.same("39 not the other one", t.paidTo(2), 0);
        Check.same("40 all", t.paidTotal(), 144L + 700L);
        claimsAtTheLimit();
        eightHouses();
    }

    private static void eightHouses() {
        TunnelRing t = Tunnels.ready(8, 50, 10);
        for (int house = 0; house < 8; house++) {
            t.addHouse(house, house, 0, 1);
        }
        t.setPressure(30);
        t.stop(1);
        t.lay(0, 0);
        t.lay(0, 1);
        Check.same("41 of eight houses", t.worstHouse(), 0);
        Check.same("38 of eight houses", t.claim(0), 4 + 20 + 10);
        Check.same("38 of eight houses", t.claim(1), 10 + 20);
        Check.same("40 eight houses", t.paidTotal(), 64L);
        Check.same("39 the eighth house", t.paidTo(7), 0);
        Check.same("35 the eighth house", t.sinkingOf(7), 0);
    }

    private static void claimsAtTheLimit() {
        TunnelRing t = sunk();
        t.addHouse(1, 1, 37, 50);
        t.addHouse(1, 1, 38, 50);
        Check.same("37 at the limit", t.claimOf(3), 0);
        Check.same("37 below the limit", t.claimOf(4), 0);
        Check.refuses("38 nothing to pay", UnsupportedOperationException.class, () -> {
            TunnelRing x = sunk();
            x.addHouse(3, 3, 0, 50);
            return x;
        }, x -> x.claim(3));
    }

    private static void worstHouse() {
        Check.refuses("41 none", NoSuchElementException.class, SinkingTest::bare,
                TunnelRing::worstHouse);
        TunnelRing t = Tunnels.ready(3, 50, 10);
        t.addHouse(2, 2, 0, 1);
        Check.same("41 the only one", t.worstHouse(), 0);
        t.addHouse(1, 1, 0, 1);
        t.addHouse(0, 0, 0, 1);
        t.addHouse(0, 2, 0, 1);
        Check.same("41 none has sunk: the lowest", t.worstHouse(), 0);
        t.setPressure(40);
        t.stop(1);
        Check.same("41 the lowest of two", t.worstHouse(), 2);
        t.lay(0, 0);
        t.setPressure(0);
        t.stop(10);
        Check.same("41 another one", t.worstHouse(), 1);
    }

    private static TunnelRing bare() {
        return Tunnels.ready(3, 50, 10);
    }

    private static void meanSinking() {
        Check.refuses("42 none laid", ArithmeticException.class, SinkingTest::bare,
                TunnelRing::meanSinking);
        TunnelRing t = sunk();
        Check.same("42 two rings", t.meanSinking(), 95.0 / 2.0);
        t.setPressure(60);
        t.lay(0, 2);
        Check.same("42 three rings", t.meanSinking(), 107.0 / 3.0);
        TunnelRing dry = bare();
        dry.lay(0, 0);
        Check.same("42 no sinking", dry.meanSinking(), 0.0);
    }

    private static void consistent() {
        TunnelRing t = new TunnelRing();
        Check.same("43 new", t.isConsistent(), true);
        TunnelRing laid = Tunnels.ready(4, 50, 10);
        laid.addCurve(1, 1, 1);
        laid.lay(1, 7);
        laid.lay(2, 4);
        Check.same("43 two rings", laid.isConsistent(), true);
        Check.same("43 refused", Check.thrownBy(() -> laid.lay(2, 0)),
                "UnsupportedOperationException");
        laid.lay(2, 1);
        laid.addCurve(3, -5, 5);
        Check.same("43 three rings, more plan", laid.isConsistent(), true);
    }
}
