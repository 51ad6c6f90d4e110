import java.util.ArrayList;
import java.util.List;

/**
 * The document once more, written another way: nothing is kept that can be found anew, hours pass
 * one by one, and an answer is a text. What a call throws is answered as "throws.X".
 */
final class Model implements Asked {
    private static final int[][] NUMBERS = {{0, 1}, {1, 1}, {1, 0}, {1, -1}, {0, -1}, {-1, -1},
        {-1, 0}, {-1, 1}};

    private final List<int[]> ground = new ArrayList<>();
    private final List<int[]> bends = new ArrayList<>();
    private final List<int[]> houses = new ArrayList<>();
    private final List<List<int[]>> stacks = List.of(new ArrayList<>(), new ArrayList<>(),
            new ArrayList<>());
    private final List<int[]> rings = new ArrayList<>();
    private final List<Integer> payments = new ArrayList<>();
    private int pressure = 50;
    private int tolerance = 100;
    private int tank = 0;
    private int clock = 0;
    private String line = "";

    @Override
    public String call(String name, int... a) {
        switch (name) {
            case "addGround": return addGround(a[0], a[1], a[2]);
            case "addCurve": return addCurve(a[0], a[1], a[2]);
            case "needAt": return hasGround(a[0]) ? "" + ground.get(a[0])[0] : index();
            case "weaknessAt": return hasGround(a[0]) ? "" + ground.get(a[0])[1] : index();
            case "sinkingAt": return hasGround(a[0]) ? "" + ground.get(a[0])[2] : index();
            case "addHouse": return addHouse(a[0], a[1], a[2], a[3]);
            case "cast": return cast(a[0], a[1]);
            case "heightOf": return isStack(a[0]) ? "" + stacks.get(a[0]).size() : index();
            case "taperAt": return taperAt(a[0], a[1]);
            case "hoursToCure": return hoursToCure(a[0]);
            case "restack": return restack(a[0], a[1]);
            case "curedShare": return curedShare();
            case "setPressure": return setPressure(a[0]);
            case "setTolerance": return setTolerance(a[0]);
            case "addSlurry": return addSlurry(a[0]);
            case "slurry": return "" + tank;
            case "slurryFor": return hasGround(rings.size()) ? "" + takes() : element();
            case "reasonFor": return reasonFor(a[0], a[1]);
            case "lay": return lay(a[0], a[1]);
            case "stop": return stop(a[0]);
            case "clock": return "" + clock;
            case "ringCount": return "" + rings.size();
            default: return callMore(name, a);
        }
    }

    private String callMore(String name, int[] a) {
        switch (name) {
            case "positionOf": return isLaid(a[0]) ? "" + rings.get(a[0])[0] : index();
            case "taperOf": return isLaid(a[0]) ? "" + rings.get(a[0])[1] : index();
            case "xAfter":
            case "xAnew":
                return isLaid(a[0]) ? "" + offset(rings.subList(0, a[0] + 1), 0) : index();
            case "yAfter":
            case "yAnew":
                return isLaid(a[0]) ? "" + offset(rings.subList(0, a[0] + 1), 1) : index();
            case "deviationAfter":
                return isLaid(a[0]) ? "" + deviation(rings.subList(0, a[0] + 1)) : index();
            case "deviationWith": return deviationWith(a[0], a[1]);
            case "bestPosition": return bestPosition(a[0]);
            case "leastDeviation":
            case "leastByTrying": return leastDeviation(a[0], a[1]);
            case "sinkingOf": return isHouse(a[0]) ? "" + sinkings(a[0])[1] : index();
            case "tiltOf":
                return isHouse(a[0]) ? "" + (sinkings(a[0])[1] - sinkings(a[0])[0]) : index();
            case "claimOf": return isHouse(a[0]) ? "" + claimOf(a[0]) : index();
            case "claim": return claim(a[0]);
            case "paidTo": return isHouse(a[0]) ? "" + houses.get(a[0])[4] : index();
            case "paidTotal":
                return "" + payments.stream().mapToLong(Integer::longValue).sum();
            case "worstHouse": return worstHouse();
            case "meanSinking": return meanSinking();
            case "isConsistent": return "true";
            case "writeRings": return writeRings(a[0]);
            case "lineAt":
                return a[0] >= 0 && a[0] < line.length() ? "" + line.charAt(a[0]) : index();
            default: throw new IllegalArgumentException(name);
        }
    }

    int rings() {
        return rings.size();
    }

    private static String index() {
        return "throws.IndexOutOfBoundsException";
    }

    private static String element() {
        return "throws.NoSuchElementException";
    }

    private static String argument() {
        return "throws.IllegalArgumentException";
    }

    private static String state() {
        return "throws.IllegalStateException";
    }

    private static String unsupported() {
        return "throws.UnsupportedOperationException";
    }

    private static boolean in(int value, int least, int greatest) {
        return value >= least && value <= greatest;
    }

    private boolean hasGround(int ring) {
        return in(ring, 0, ground.size() - 1);
    }

    private boolean isLaid(int ring) {
        return in(ring, 0, rings.size() - 1);
    }

    private boolean isHouse(int house) {
        return in(house, 0, houses.size() - 1);
    }

    private static boolean isStack(int stack) {
        return in(stack, 0, 2);
    }

    private String addGround(int count, int need, int weakness) {
        if (!in(count, 1, 50) || !in(need, 0, 100) || !in(weakness, 0, 20)) {
            return argument();
        }
        if (ground.size() + count > 200) {
            return state();
        }
        for (int i = 0; i < count; i++) {
            ground.add(new int[] {need, weakness, 0});
        }
        return "" + ground.size();
    }

    private String addCurve(int count, int bendX, int bendY) {
        if (!in(count, 1, 50) || !in(bendX, -5, 5) || !in(bendY, -5, 5)) {
            return argument();
        }
        if (bends.size() + count > 200) {
            return state();
        }
        for (int i = 0; i < count; i++) {
            bends.add(new int[] {bendX, bendY});
        }
        return "" + bends.size();
    }

    private String addHouse(int first, int last, int limit, int rate) {
        if (!hasGround(first) || !hasGround(last)) {
            return index();
        }
        if (last < first || !in(limit, 0, 100) || !in(rate, 1, 50)) {
            return argument();
        }
        if (houses.size() == 8) {
            return state();
        }
        houses.add(new int[] {first, last, limit, rate, 0});
        return "" + (houses.size() - 1);
    }

    private String cast(int stack, int taper) {
        if (!isStack(stack)) {
            return index();
        }
        if (!in(taper, 0, 9)) {
            return argument();
        }
        if (stacks.get(stack).size() == 12) {
            return state();
        }
        stacks.get(stack).add(new int[] {taper, clock});
        return "" + stacks.get(stack).size();
    }

    private String taperAt(int stack, int place) {
        if (!isStack(stack)) {
            return index();
        }
        List<int[]> s = stacks.get(stack);
        return in(place, 0, s.size() - 1) ? "" + s.get(place)[0] : element();
    }

    private int[] top(int stack) {
        List<int[]> s = stacks.get(stack);
        return s.isEmpty() ? null : s.get(s.size() - 1);
    }

    private boolean isCured(int[] ring) {
        return clock - ring[1] >= 24;
    }

    private String hoursToCure(int stack) {
        if (!isStack(stack)) {
            return index();
        }
        int[] ring = top(stack);
        if (ring == null) {
            return element();
        }
        return isCured(ring) ? "0" : "" + (24 - (clock - ring[1]));
    }

    private String restack(int from, int to) {
        if (!isStack(from) || !isStack(to)) {
            return index();
        }
        if (stacks.get(from).isEmpty()) {
            return element();
        }
        if (from != to && stacks.get(to).size() == 12) {
            return state();
        }
        stacks.get(to).add(stacks.get(from).remove(stacks.get(from).size() - 1));
        return "" + stacks.get(to).size();
    }

    private String curedShare() {
        long all = stacks.stream().mapToLong(List::size).sum();
        long cured = stacks.stream().flatMap(List::stream).filter(this::isCured).count();
        return all == 0 ? "throws.ArithmeticException" : "" + (float) cured / (float) all;
    }

    private String setPressure(int value) {
        if (!in(value, 0, 100)) {
            return argument();
        }
        int before = pressure;
        pressure = value;
        return "" + before;
    }

    private String setTolerance(int value) {
        if (!in(value, 0, 9999)) {
            return argument();
        }
        int before = tolerance;
        tolerance = value;
        return "" + before;
    }

    private String addSlurry(int volume) {
        if (!in(volume, 1, 500)) {
            return argument();
        }
        if (tank + volume > 1000) {
            return state();
        }
        tank += volume;
        return "" + tank;
    }

    private int takes() {
        int[] next = ground.get(rings.size());
        int sum = next[0] + 20;
        return 10 + next[1] + (pressure > sum ? pressure - sum : 0);
    }

    private static boolean fits(List<int[]> line, int position) {
        if (line.isEmpty()) {
            return true;
        }
        int before = line.get(line.size() - 1)[0];
        return before != position && (before + 4) % 8 != position;
    }

    private List<int[]> with(int position, int taper) {
        List<int[]> more = new ArrayList<>(rings);
        more.add(new int[] {position, taper});
        return more;
    }

    private char reason(int stack, int position) {
        int[] ring = top(stack);
        if (!hasGround(rings.size())) {
            return 'g';
        }
        if (ring == null) {
            return 'e';
        }
        if (!isCured(ring)) {
            return 'c';
        }
        if (!fits(rings, position)) {
            return 'j';
        }
        if (tank < takes()) {
            return 's';
        }
        return deviation(with(position, ring[0])) > tolerance ? 't' : '-';
    }

    private String reasonFor(int stack, int position) {
        if (!isStack(stack)) {
            return index();
        }
        return in(position, 0, 7) ? "" + reason(stack, position) : argument();
    }

    private String lay(int stack, int position) {
        if (!isStack(stack)) {
            return index();
        }
        if (!in(position, 0, 7)) {
            return argument();
        }
        if (reason(stack, position) != '-') {
            return unsupported();
        }
        if (clock + 2 > 5000) {
            return state();
        }
        tank -= takes();
        int ring = rings.size();
        int[] here = ground.get(ring);
        if (pressure < here[0]) {
            int fall = (here[0] - pressure) * here[1] / 10;
            for (int near = ring - 1; near <= ring + 1; near++) {
                if (hasGround(near)) {
                    ground.get(near)[2] += near == ring ? fall : fall / 2;
                }
            }
        }
        List<int[]> s = stacks.get(stack);
        rings.add(new int[] {position, s.remove(s.size() - 1)[0]});
        clock += 2;
        return "" + ring;
    }

    private String stop(int hours) {
        if (!in(hours, 1, 100)) {
            return argument();
        }
        if (clock + hours > 5000) {
            return state();
        }
        for (int hour = 0; hour < hours; hour++) {
            clock++;
            if (hasGround(rings.size()) && pressure < ground.get(rings.size())[0]) {
                int[] next = ground.get(rings.size());
                next[2] += (next[0] - pressure) * next[1] / 50;
            }
        }
        return "" + clock;
    }

    /** A bend of ring i moves the offset once for ring i and once for each ring behind it. */
    private static int offset(List<int[]> line, int axis) {
        int sum = 0;
        for (int i = 0; i < line.size(); i++) {
            sum += line.get(i)[1] * NUMBERS[line.get(i)[0]][axis] * (line.size() - i);
        }
        return sum;
    }

    private int planned(int count, int axis) {
        int sum = 0;
        for (int i = 0; i < Math.min(count, bends.size()); i++) {
            sum += bends.get(i)[axis] * (count - i);
        }
        return sum;
    }

    private int deviation(List<int[]> line) {
        return Math.abs(offset(line, 0) - planned(line.size(), 0))
                + Math.abs(offset(line, 1) - planned(line.size(), 1));
    }

    private String deviationWith(int stack, int position) {
        if (!isStack(stack)) {
            return index();
        }
        if (!in(position, 0, 7)) {
            return argument();
        }
        return top(stack) == null ? element() : "" + deviation(with(position, top(stack)[0]));
    }

    private String bestPosition(int stack) {
        if (!isStack(stack)) {
            return index();
        }
        if (top(stack) == null) {
            return element();
        }
        int best = -1;
        for (int position = 7; position >= 0; position--) {
            if (fits(rings, position) && (best < 0 || deviation(with(position, top(stack)[0]))
                    <= deviation(with(best, top(stack)[0])))) {
                best = position;
            }
        }
        return "" + best;
    }

    private String leastDeviation(int stack, int count) {
        if (!isStack(stack)) {
            return index();
        }
        if (!in(count, 1, 4)) {
            return argument();
        }
        List<int[]> s = stacks.get(stack);
        if (s.size() < count) {
            return element();
        }
        int least = Integer.MAX_VALUE;
        List<int[]> line = new ArrayList<>(rings);
        for (int code = 0; code < 1 << 3 * count; code++) {
            boolean all = true;
            for (int step = 0; step < count && all; step++) {
                int position = code >> 3 * step & 7;
                all = fits(line, position);
                line.add(new int[] {position, s.get(s.size() - 1 - step)[0]});
            }
            if (all) {
                least = Math.min(least, deviation(line));
            }
            line.subList(rings.size(), line.size()).clear();
        }
        return "" + least;
    }

    private int[] sinkings(int house) {
        int[] h = houses.get(house);
        return new int[] {
            ground.subList(h[0], h[1] + 1).stream().mapToInt(g -> g[2]).min().getAsInt(),
            ground.subList(h[0], h[1] + 1).stream().mapToInt(g -> g[2]).max().getAsInt()};
    }

    private int claimOf(int house) {
        int[] h = houses.get(house);
        int sinking = sinkings(house)[1];
        return sinking > h[2] ? (sinking - h[2]) * h[3] - h[4] : 0;
    }

    private String claim(int house) {
        if (!isHouse(house)) {
            return index();
        }
        int payment = claimOf(house);
        if (payment == 0) {
            return unsupported();
        }
        houses.get(house)[4] += payment;
        payments.add(payment);
        return "" + payment;
    }

    private String worstHouse() {
        int worst = -1;
        for (int house = houses.size() - 1; house >= 0; house--) {
            if (worst < 0 || sinkings(house)[1] >= sinkings(worst)[1]) {
                worst = house;
            }
        }
        return worst < 0 ? element() : "" + worst;
    }

    private String meanSinking() {
        double sum = 0;
        for (int ring = 0; ring < rings.size(); ring++) {
            sum += ground.get(ring)[2];
        }
        return rings.isEmpty() ? "throws.ArithmeticException" : "" + sum / rings.size();
    }

    private String writeRings(int first) {
        if (!isLaid(first)) {
            return index();
        }
        List<String> words = new ArrayList<>();
        for (int ring = first; ring < rings.size() && words.size() < 10; ring++) {
            words.add(rings.get(ring)[0] + "/" + rings.get(ring)[1]);
        }
        line = String.join(" ", words);
        return "" + line.length();
    }
}
