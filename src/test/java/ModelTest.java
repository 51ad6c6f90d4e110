/** Long runs of calls, each compared with the model. */
public final class ModelTest {
    private static final int RUNS = 240;
    private static final String[] FACE = Driven.face();
    private static final String[] DRIVING = {"cast", "cast", "lay", "lay", "lay", "lay", "stop",
        "addSlurry", "addGround", "bestPosition", "reasonFor"};
    private static final int[] EDGES = {-1, Integer.MAX_VALUE, Integer.MIN_VALUE, 200, 201, 101};

    private final int run;
    private final Numbers numbers;
    private final Pair pair;

    private ModelTest(int run) {
        this.run = run;
        numbers = new Numbers(run * 7919L + 17);
        pair = new Pair("run " + run);
    }

    public static void main(String[] args) {
        Check.same("methods of the face", FACE.length, 44);
        int most = 0;
        for (int run = 0; run < RUNS; run++) {
            most = Math.max(most, new ModelTest(run).rings());
        }
        Check.same("a run laid more than 50 rings", most > 50, true);
        for (int tunnel = 0; tunnel < 10; tunnel++) {
            wholeTunnel(tunnel);
        }
        Check.end();
    }

    /** Some runs mostly drive, others call anything. */
    private int rings() {
        int driving = run % 4 * 30;
        while (pair.calls() < Driven.CALLS) {
            String name = next(100) < driving ? DRIVING[next(DRIVING.length)]
                    : FACE[next(FACE.length)];
            int[] arguments = usual(name);
            if (arguments.length > 0 && next(40) == 0) {
                arguments[next(arguments.length)] = EDGES[next(EDGES.length)];
            }
            pair.ask(name, arguments);
        }
        return pair.model.rings();
    }

    private int next(int bound) {
        return numbers.next(bound);
    }

    private static int[] of(int... arguments) {
        return arguments;
    }

    private int[] usual(String name) {
        boolean calm = run % 3 == 0;
        switch (name) {
            case "addGround": return of(calm ? 20 + next(31) : next(52), next(102), next(22));
            case "addCurve": return of(next(52), next(13) - 6, next(13) - 6);
            case "addHouse": return of(next(20), next(60), next(102), next(52));
            case "cast": return of(next(3), calm ? next(2) : next(11));
            case "taperAt": return of(next(3), next(13));
            case "restack": return of(next(3), next(3));
            case "setPressure": return of(next(102));
            case "setTolerance": return of(next(2) == 0 ? 9999 : next(300));
            case "addSlurry": return of(next(502));
            case "stop": return of(run % 5 == 0 ? next(102) : next(30));
            case "leastDeviation":
            case "leastByTrying": return of(next(3), next(6));
            case "reasonFor":
            case "deviationWith": return of(next(3), next(9));
            case "lay": return layArguments();
            case "lineAt": return of(next(41));
            default: return oneOrNone(name);
        }
    }

    /** Every second time, the position that bends least, so that some runs come far. */
    private int[] layArguments() {
        int stack = next(3);
        String best = pair.model.call("bestPosition", of(stack));
        boolean follow = next(2) == 0 && !best.startsWith("throws");
        return of(stack, follow ? Integer.parseInt(best) : next(8));
    }

    private int[] oneOrNone(String name) {
        int rings = pair.model.rings();
        switch (name) {
            case "heightOf":
            case "hoursToCure":
            case "bestPosition": return of(next(3));
            case "sinkingOf":
            case "tiltOf":
            case "claimOf":
            case "claim":
            case "paidTo": return of(next(9));
            case "needAt":
            case "weaknessAt":
            case "sinkingAt": return of(next(2) == 0 ? next(202) : Math.max(0, rings - next(3)));
            case "positionOf":
            case "taperOf":
            case "xAfter":
            case "yAfter":
            case "xAnew":
            case "yAnew":
            case "deviationAfter":
            case "writeRings": return of(next(rings + 2));
            default: return new int[0];
        }
    }

    /** All 200 rings within the calls that are promised; the plan comes partly behind the rings. */
    private static void wholeTunnel(int number) {
        Pair pair = new Pair("tunnel " + number);
        Numbers numbers = new Numbers(4711 + number);
        for (int part = 0; part < 4; part++) {
            pair.ask("addGround", 50, numbers.next(60), numbers.next(10));
        }
        pair.ask("addCurve", 50, numbers.next(11) - 5, numbers.next(11) - 5);
        pair.ask("addHouse", 150, 199, 3, 2);
        pair.ask("addHouse", 0, 10, 3, 2);
        pair.ask("setTolerance", 9999);
        while (pair.model.rings() < 200 && pair.calls() < Driven.CALLS) {
            layTwelve(pair, numbers);
        }
        Check.same("rings of the whole tunnel", pair.model.rings(), 200);
        pair.ask("addCurve", 50, numbers.next(11) - 5, numbers.next(11) - 5);
        look(pair, numbers);
    }

    private static void layTwelve(Pair pair, Numbers numbers) {
        for (int ring = 0; ring < 12; ring++) {
            pair.ask("cast", 1, numbers.next(10));
        }
        pair.ask("stop", 24);
        pair.ask("setPressure", numbers.next(60));
        for (int ring = 0; ring < 12 && pair.model.rings() < 200; ring++) {
            if (pair.model.call("reasonFor", of(1, bestPosition(pair))).equals("s")) {
                pair.ask("addSlurry", 500);
            }
            pair.ask("lay", 1, bestPosition(pair));
        }
    }

    private static int bestPosition(Pair pair) {
        return Integer.parseInt(pair.model.call("bestPosition", of(1)));
    }

    private static void look(Pair pair, Numbers numbers) {
        String[] ofRing = {"deviationAfter", "xAfter", "yAfter", "xAnew", "yAnew", "sinkingAt",
            "writeRings"};
        for (String name : ofRing) {
            pair.ask(name, 199);
            pair.ask(name, 200);
            pair.ask(name, numbers.next(200));
        }
        for (int position = 0; position < 8; position++) {
            pair.ask("deviationWith", 1, position);
        }
        for (int count = 1; count <= 4; count++) {
            pair.ask("leastDeviation", 1, count);
            pair.ask("leastByTrying", 1, count);
        }
        pair.ask("bestPosition", 1);
        pair.ask("isConsistent");
        pair.ask("meanSinking");
        pair.ask("worstHouse");
        pair.ask("claim", 0);
        pair.ask("slurryFor");
        pair.ask("stop", 100);
        pair.ask("sinkingAt", 199);
        Check.same("calls that are promised", pair.calls() <= Driven.CALLS, true);
    }
}
