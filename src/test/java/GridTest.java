import java.util.Arrays;

/** Every call with every mix of boundary arguments, in states at the boundaries, with the model. */
public final class GridTest {
    private static final int LEAST = Integer.MIN_VALUE;
    private static final int GREATEST = Integer.MAX_VALUE;
    private static final String DRIVEN = Ready.tunnel(4, 53, 5) + "; addCurve 3 1 -2;"
            + "addHouse 0 2 10 3; addHouse 1 1 36 50; setPressure 0; stop 4; lay 1 0; lay 2 1;"
            + "lay 1 3; writeRings 1; claim 0; restack 0 1; cast 0 9";
    private static final String NEARLY_FULL = "addGround 50 60 10 *3; addGround 49 90 20;"
            + "addCurve 50 1 2 *3; addCurve 49 -1 0; addHouse 0 9 5 5 *7; cast 0 1 *11;"
            + "cast 1 2 *11; cast 2 9 *11; addSlurry 500; addSlurry 499; stop 100 *49; stop 97;"
            + "lay 0 3; addSlurry 20";
    private static final String FULL = "addGround 50 60 10 *4; addCurve 50 1 2 *4;"
            + "addHouse 0 9 5 5 *8; cast 0 1 *12; cast 1 2 *12; cast 2 9 *12; addSlurry 500 *2;"
            + "stop 100 *49; stop 98; lay 1 7; cast 1 3; addSlurry 20";
    private static final String AT_THE_END = Ready.tunnel(2, 40, 9) + "; addHouse 1 1 0 1;"
            + "setPressure 20; lay 0 7; lay 1 0; restack 0 1 *3; writeRings 0; stop 100";
    private static final String[] STATES = {"", Ready.tunnel(3, 60, 10), DRIVEN, NEARLY_FULL, FULL,
        AT_THE_END};

    private static final int[] ONE = {LEAST, -1, 0, 1, 2, 3, 4, 6, 7, 8, 11, 12, 50, 99, 100, 101,
        199, 200, 499, 500, 501, 9999, 10000, GREATEST};
    private static final int[] FEW = {LEAST, -1, 0, 1, 2, 3, 4, 5, 7, 8, 9, 10, 11, 12, GREATEST};
    private static final int[] RINGS = {-1, 0, 1, 2, 50, 51, GREATEST};
    private static final int[] BENDS = {LEAST, -6, -5, 0, 5, 6, 20, 21, 100, 101};
    private static final int[] PLACES = {-1, 0, 1, 2, 4, 199, 200};
    private static final int[] LIMITS = {-1, 0, 100, 101};
    private static final int[] RATES = {0, 1, 50, 51};

    public static void main(String[] args) {
        for (String before : STATES) {
            for (String name : Driven.face()) {
                mix(before, name, valuesFor(name), new int[0]);
            }
        }
        Check.end();
    }

    private static int[][] valuesFor(String name) {
        switch (Driven.argumentsOf(name)) {
            case 0: return new int[0][];
            case 1: return new int[][] {ONE};
            case 2: return new int[][] {FEW, FEW};
            case 3: return new int[][] {RINGS, BENDS, BENDS};
            default: return new int[][] {PLACES, PLACES, LIMITS, RATES};
        }
    }

    private static void mix(String before, String name, int[][] values, int[] chosen) {
        if (chosen.length == values.length) {
            ask(before, name, chosen);
            return;
        }
        for (int value : values[chosen.length]) {
            int[] more = Arrays.copyOf(chosen, chosen.length + 1);
            more[chosen.length] = value;
            mix(before, name, values, more);
        }
    }

    private static void ask(String before, String name, int[] arguments) {
        Driven tunnel = Script.played(new Driven(), before);
        Model model = Script.played(new Model(), before);
        String title = name + Arrays.toString(arguments) + " after " + before;
        Check.same(title, tunnel.call(name, arguments), model.call(name, arguments));
        Check.same("afterwards, " + title, Afterwards.difference(tunnel, model), "");
    }
}
