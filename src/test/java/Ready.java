/** What comes before a boundary case, as texts. */
final class Ready {
    /** The 12 rings that are cast at first, the tapers on top are 0, 1 and 6. */
    private static final String RINGS = "cast 0 0 *4; cast 1 4; cast 1 3; cast 1 2; cast 1 1;"
            + "cast 2 9; cast 2 8; cast 2 7; cast 2 6";

    private Ready() {
    }

    /** So many rings of ground that have not sunk, cured rings, 1000 of slurry, at hour 24. */
    static String tunnel(int rings, int need, int weakness) {
        return "addGround " + rings + " " + need + " " + weakness + ";" + RINGS
                + "; setPressure 100; stop 24; addSlurry 500 *2";
    }

    /** Such a tunnel at a later hour, which is at least 4924. */
    static String late(int hour) {
        String before = tunnel(3, 40, 5) + "; stop 100 *49";
        return hour == 4924 ? before : before + "; stop " + (hour - 4924);
    }
}
