/** Tunnels that are ready for a test. */
final class Tunnels {
    private Tunnels() {
    }

    /** So many rings of ground, stacks of cured rings whose tapers rise downward, 1000 of slurry. */
    static TunnelRing ready(int rings, int need, int weakness) {
        TunnelRing t = new TunnelRing();
        t.addGround(rings, need, weakness);
        for (int taper = 0; taper < 4; taper++) {
            t.cast(0, 0);
            t.cast(1, 4 - taper);
            t.cast(2, 9 - taper);
        }
        t.setPressure(100);
        t.stop(24);
        t.addSlurry(500);
        t.addSlurry(500);
        return t;
    }
}
