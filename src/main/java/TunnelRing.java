import java.util.NoSuchElementException;

/** A tunnel that a machine drives ring by ring. */
public final class TunnelRing {
    private static final int MAX_RINGS = 200;
    private static final int MAX_ADDED = 50;
    private static final int MAX_PRESSURE = 100;
    private static final int MAX_WEAKNESS = 20;
    private static final int MAX_BEND = 5;
    private static final int MAX_HOUSES = 8;
    private static final int MAX_LIMIT = 100;
    private static final int MAX_RATE = 50;
    private static final int STACKS = 3;
    private static final int MAX_HEIGHT = 12;
    private static final int MAX_TAPER = 9;
    private static final int HOURS_TO_CURE = 24;
    private static final int FIRST_PRESSURE = 50;
    private static final int MAX_FILLING = 500;
    private static final int MAX_SLURRY = 1000;
    private static final int SLURRY_PER_RING = 10;
    private static final int FREE_PRESSURE = 20;
    private static final int FIRST_TOLERANCE = 100;
    private static final int MAX_TOLERANCE = 9999;
    private static final int LAST_HOUR = 5000;
    private static final int HOURS_TO_LAY = 2;
    private static final int MAX_STOP = 100;
    private static final int LAYING_DIVISOR = 10;
    private static final int STANDING_DIVISOR = 50;
    private static final int MAX_AHEAD = 4;
    private static final int RINGS_PER_LINE = 10;
    private static final int NO_RING = -1;
    private static final int GREATEST_INT = 2147483647;
    private static final char NO_REASON = '-';

    /** What a taper of 1 changes the headings by, in the positions 0 to 7. */
    private static final int[] TO_SIDE = {0, 1, 1, 1, 0, -1, -1, -1};
    private static final int[] UPWARD = {1, 1, 0, -1, -1, -1, 0, 1};

    private final Ground ground;
    private final Plan plan;
    private final Houses houses;
    private final Yard yard;
    private final Tube tube;
    private final Search search;
    private final Course followed;
    private final Text text;
    private int pressure;
    private int tank;
    private int tolerance;
    private int hour;

    public TunnelRing() {
        ground = new Ground();
        plan = new Plan();
        houses = new Houses();
        yard = new Yard();
        tube = new Tube();
        search = new Search();
        followed = new Course();
        text = new Text();
        pressure = FIRST_PRESSURE;
        tank = 0;
        tolerance = FIRST_TOLERANCE;
        hour = 0;
    }

    // ---- ground, plan and houses

    public int addGround(int rings, int need, int weakness)
            throws IllegalArgumentException, IllegalStateException {
        checkRange(rings, 1, MAX_ADDED);
        checkRange(need, 0, MAX_PRESSURE);
        checkRange(weakness, 0, MAX_WEAKNESS);
        if (ground.known + rings > MAX_RINGS) {
            throw new IllegalStateException("ground for too many rings");
        }
        ground.extend(rings, need, weakness);
        return ground.known;
    }

    public int addCurve(int rings, int bendX, int bendY)
            throws IllegalArgumentException, IllegalStateException {
        checkRange(rings, 1, MAX_ADDED);
        checkRange(bendX, -MAX_BEND, MAX_BEND);
        checkRange(bendY, -MAX_BEND, MAX_BEND);
        if (plan.planned + rings > MAX_RINGS) {
            throw new IllegalStateException("bends for too many rings");
        }
        plan.extend(rings, bendX, bendY);
        return plan.planned;
    }

    public int needAt(int ring) throws IndexOutOfBoundsException {
        checkGround(ring);
        return ground.needOf(ring);
    }

    public int weaknessAt(int ring) throws IndexOutOfBoundsException {
        checkGround(ring);
        return ground.weaknessOf(ring);
    }

    public int addHouse(int first, int last, int limit, int rate)
            throws IndexOutOfBoundsException, IllegalArgumentException, IllegalStateException {
        checkGround(first);
        checkGround(last);
        if (last < first) {
            throw new IllegalArgumentException("the last ring is less than the first one");
        }
        checkRange(limit, 0, MAX_LIMIT);
        checkRange(rate, 1, MAX_RATE);
        if (houses.built >= MAX_HOUSES) {
            throw new IllegalStateException("too many houses");
        }
        return houses.build(first, last, limit, rate);
    }

    // ---- stacks

    public int cast(int stack, int taper)
            throws IndexOutOfBoundsException, IllegalArgumentException, IllegalStateException {
        checkStack(stack);
        checkRange(taper, 0, MAX_TAPER);
        if (yard.isFull(stack)) {
            throw new IllegalStateException("the stack is full");
        }
        yard.put(stack, taper, hour);
        return yard.height[stack];
    }

    public int heightOf(int stack) throws IndexOutOfBoundsException {
        checkStack(stack);
        return yard.height[stack];
    }

    public int taperAt(int stack, int place)
            throws IndexOutOfBoundsException, NoSuchElementException {
        checkStack(stack);
        if (place < 0 || place >= yard.height[stack]) {
            throw new NoSuchElementException("no such place");
        }
        return yard.taperIn(stack, place);
    }

    public int hoursToCure(int stack) throws IndexOutOfBoundsException, NoSuchElementException {
        checkStack(stack);
        checkRings(stack, 1);
        return yard.hoursLeft(stack, yard.height[stack] - 1, hour);
    }

    public int restack(int from, int to)
            throws IndexOutOfBoundsException, NoSuchElementException, IllegalStateException {
        checkStack(from);
        checkStack(to);
        checkRings(from, 1);
        if (from != to) {
            if (yard.isFull(to)) {
                throw new IllegalStateException("the other stack is full");
            }
            yard.move(from, to);
        }
        return yard.height[to];
    }

    public float curedShare() throws ArithmeticException {
        int rings = yard.countRings();
        if (rings == 0) {
            throw new ArithmeticException("all stacks are empty");
        }
        return (float) yard.countCured(hour) / (float) rings;
    }

    // ---- machine and line

    public int setPressure(int pressure) throws IllegalArgumentException {
        checkRange(pressure, 0, MAX_PRESSURE);
        int previous = this.pressure;
        this.pressure = pressure;
        return previous;
    }

    public int addSlurry(int volume) throws IllegalArgumentException, IllegalStateException {
        checkRange(volume, 1, MAX_FILLING);
        if (tank + volume > MAX_SLURRY) {
            throw new IllegalStateException("too much slurry for the tank");
        }
        tank += volume;
        return tank;
    }

    public int slurry() {
        return tank;
    }

    public int slurryFor() throws NoSuchElementException {
        if (!ground.isKnown(tube.laid)) {
            throw new NoSuchElementException("no ground for the next ring");
        }
        return slurryTaken(tube.laid);
    }

    public int setTolerance(int tolerance) throws IllegalArgumentException {
        checkRange(tolerance, 0, MAX_TOLERANCE);
        int previous = this.tolerance;
        this.tolerance = tolerance;
        return previous;
    }

    public char reasonFor(int stack, int position)
            throws IndexOutOfBoundsException, IllegalArgumentException {
        checkStack(stack);
        checkPosition(position);
        return firstReason(stack, position);
    }

    public int lay(int stack, int position)
            throws IndexOutOfBoundsException, IllegalArgumentException,
            UnsupportedOperationException, IllegalStateException {
        checkStack(stack);
        checkPosition(position);
        if (firstReason(stack, position) != NO_REASON) {
            throw new UnsupportedOperationException("there is a reason against it");
        }
        if (hour + HOURS_TO_LAY > LAST_HOUR) {
            throw new IllegalStateException("the clock would be too great");
        }
        int ring = tube.laid;
        tank -= slurryTaken(ring);
        sinkWhileLaying(ring);
        tube.append(position, yard.topTaper(stack));
        yard.takeTop(stack);
        hour += HOURS_TO_LAY;
        return ring;
    }

    public int stop(int hours) throws IllegalArgumentException, IllegalStateException {
        checkRange(hours, 1, MAX_STOP);
        if (hour + hours > LAST_HOUR) {
            throw new IllegalStateException("the clock would be too great");
        }
        sinkWhileStanding(tube.laid, hours);
        hour += hours;
        return hour;
    }

    public int clock() {
        return hour;
    }

    public int ringCount() {
        return tube.laid;
    }

    public int positionOf(int ring) throws IndexOutOfBoundsException {
        checkLaid(ring);
        return tube.position[ring];
    }

    public int taperOf(int ring) throws IndexOutOfBoundsException {
        checkLaid(ring);
        return tube.taper[ring];
    }

    public int xAfter(int ring) throws IndexOutOfBoundsException {
        checkLaid(ring);
        return tube.keptX[ring];
    }

    public int yAfter(int ring) throws IndexOutOfBoundsException {
        checkLaid(ring);
        return tube.keptY[ring];
    }

    public int xAnew(int ring) throws IndexOutOfBoundsException {
        checkLaid(ring);
        followRings(ring + 1);
        return followed.x;
    }

    public int yAnew(int ring) throws IndexOutOfBoundsException {
        checkLaid(ring);
        followRings(ring + 1);
        return followed.y;
    }

    public int deviationAfter(int ring) throws IndexOutOfBoundsException {
        checkLaid(ring);
        followPlan(ring + 1);
        return Math.abs(tube.keptX[ring] - followed.x) + Math.abs(tube.keptY[ring] - followed.y);
    }

    public int deviationWith(int stack, int position)
            throws IndexOutOfBoundsException, IllegalArgumentException, NoSuchElementException {
        checkStack(stack);
        checkPosition(position);
        checkRings(stack, 1);
        prepareSearch(stack, 1);
        return search.deviationIn(position);
    }

    public int bestPosition(int stack) throws IndexOutOfBoundsException, NoSuchElementException {
        checkStack(stack);
        checkRings(stack, 1);
        prepareSearch(stack, 1);
        int before = tube.lastPosition();
        int best = 0;
        int least = GREATEST_INT;
        for (int position = 0; position < TO_SIDE.length; position++) {
            if (fits(before, position)) {
                int deviation = search.deviationIn(position);
                if (deviation < least) {
                    least = deviation;
                    best = position;
                }
            }
        }
        return best;
    }

    public int leastDeviation(int stack, int count)
            throws IndexOutOfBoundsException, IllegalArgumentException, NoSuchElementException {
        checkStack(stack);
        checkRange(count, 1, MAX_AHEAD);
        checkRings(stack, count);
        prepareSearch(stack, count);
        searchFrom(search, 0, tube.lastPosition());
        return search.least;
    }

    public int leastByTrying(int stack, int count)
            throws IndexOutOfBoundsException, IllegalArgumentException, NoSuchElementException {
        checkStack(stack);
        checkRange(count, 1, MAX_AHEAD);
        checkRings(stack, count);
        prepareSearch(stack, count);
        tryAllFrom(search, 0, tube.lastPosition());
        return search.least;
    }

    // ---- sinking and claims

    public int sinkingAt(int ring) throws IndexOutOfBoundsException {
        checkGround(ring);
        return ground.sinkingOver(ring);
    }

    public int sinkingOf(int house) throws IndexOutOfBoundsException {
        checkHouse(house);
        return greatestSinking(house);
    }

    public int tiltOf(int house) throws IndexOutOfBoundsException {
        checkHouse(house);
        return greatestSinking(house) - leastSinking(house);
    }

    public int claimOf(int house) throws IndexOutOfBoundsException {
        checkHouse(house);
        return paymentDue(house);
    }

    public int claim(int house) throws IndexOutOfBoundsException, UnsupportedOperationException {
        checkHouse(house);
        int payment = paymentDue(house);
        if (payment == 0) {
            throw new UnsupportedOperationException("nothing to pay");
        }
        houses.paid[house] += payment;
        return payment;
    }

    public int paidTo(int house) throws IndexOutOfBoundsException {
        checkHouse(house);
        return houses.paid[house];
    }

    public long paidTotal() {
        long total = 0;
        for (int house = 0; house < houses.built; house++) {
            total += houses.paid[house];
        }
        return total;
    }

    public int worstHouse() throws NoSuchElementException {
        if (houses.built == 0) {
            throw new NoSuchElementException("no houses");
        }
        int worst = 0;
        for (int house = 1; house < houses.built; house++) {
            if (greatestSinking(house) > greatestSinking(worst)) {
                worst = house;
            }
        }
        return worst;
    }

    public double meanSinking() throws ArithmeticException {
        if (tube.laid == 0) {
            throw new ArithmeticException("no ring has been laid");
        }
        int sum = 0;
        for (int ring = 0; ring < tube.laid; ring++) {
            sum += ground.sinkingOver(ring);
        }
        return (double) sum / (double) tube.laid;
    }

    public boolean isConsistent() {
        followed.restart();
        int before = NO_RING;
        for (int ring = 0; ring < tube.laid; ring++) {
            int position = tube.position[ring];
            followed.addRing(position, tube.taper[ring]);
            if (followed.x != tube.keptX[ring] || followed.y != tube.keptY[ring]
                    || !fits(before, position)) {
                return false;
            }
            before = position;
        }
        return true;
    }

    // ---- line

    public int writeRings(int first) throws IndexOutOfBoundsException {
        checkLaid(first);
        int end = Math.min(tube.laid, first + RINGS_PER_LINE);
        text.clear();
        for (int ring = first; ring < end; ring++) {
            if (ring > first) {
                text.put(' ');
            }
            text.putDigit(tube.position[ring]);
            text.put('/');
            text.putDigit(tube.taper[ring]);
        }
        return text.length;
    }

    public char lineAt(int index) throws IndexOutOfBoundsException {
        if (index < 0 || index >= text.length) {
            throw new IndexOutOfBoundsException("no such character");
        }
        return text.sign[index];
    }

    // ---- what the calls refuse

    private static void checkRange(int value, int least, int greatest) {
        if (value < least || value > greatest) {
            throw new IllegalArgumentException("an argument is out of range");
        }
    }

    private static void checkStack(int stack) {
        if (stack < 0 || stack >= STACKS) {
            throw new IndexOutOfBoundsException("no such stack");
        }
    }

    private static void checkPosition(int position) {
        if (position < 0 || position >= TO_SIDE.length) {
            throw new IllegalArgumentException("no such position");
        }
    }

    private void checkGround(int ring) {
        if (!ground.isKnown(ring)) {
            throw new IndexOutOfBoundsException("no ground for this ring");
        }
    }

    private void checkLaid(int ring) {
        if (ring < 0 || ring >= tube.laid) {
            throw new IndexOutOfBoundsException("no such ring has been laid");
        }
    }

    private void checkHouse(int house) {
        if (house < 0 || house >= houses.built) {
            throw new IndexOutOfBoundsException("no such house");
        }
    }

    private void checkRings(int stack, int count) {
        if (yard.height[stack] < count) {
            throw new NoSuchElementException("the stack has too few rings");
        }
    }

    // ---- laying

    /** Whether a position fits to the one before, which is NO_RING ahead of the first ring. */
    private static boolean fits(int before, int position) {
        return before == NO_RING || (position != before && Math.abs(position - before) != 4);
    }

    private char firstReason(int stack, int position) {
        int ring = tube.laid;
        if (!ground.isKnown(ring)) {
            return 'g';
        }
        if (yard.height[stack] == 0) {
            return 'e';
        }
        if (yard.hoursLeft(stack, yard.height[stack] - 1, hour) > 0) {
            return 'c';
        }
        if (!fits(tube.lastPosition(), position)) {
            return 'j';
        }
        if (tank < slurryTaken(ring)) {
            return 's';
        }
        prepareSearch(stack, 1);
        return search.deviationIn(position) > tolerance ? 't' : NO_REASON;
    }

    private int slurryTaken(int ring) {
        int beyond = Math.max(0, pressure - (ground.needOf(ring) + FREE_PRESSURE));
        return SLURRY_PER_RING + ground.weaknessOf(ring) + beyond;
    }

    private void sinkWhileLaying(int ring) {
        int fall = ground.missing(ring, pressure) * ground.weaknessOf(ring) / LAYING_DIVISOR;
        ground.sink(ring, fall);
        ground.sink(ring - 1, fall / 2);
        ground.sink(ring + 1, fall / 2);
    }

    private void sinkWhileStanding(int ring, int hours) {
        int hourly = ground.missing(ring, pressure) * ground.weaknessOf(ring) / STANDING_DIVISOR;
        ground.sink(ring, hourly * hours);
    }

    // ---- following the line and the plan

    private void followRings(int rings) {
        followed.restart();
        for (int ring = 0; ring < rings; ring++) {
            followed.addRing(tube.position[ring], tube.taper[ring]);
        }
    }

    private void followPlan(int rings) {
        followed.restart();
        for (int ring = 0; ring < rings; ring++) {
            followed.bend(plan.sideBend(ring), plan.upBend(ring));
        }
    }

    /** Takes so many rings from the top of a stack for a search; the stack has at least these. */
    private void prepareSearch(int stack, int count) {
        followPlan(tube.laid);
        search.restart(tube.end, followed);
        int top = yard.height[stack] - 1;
        for (int step = 0; step < count; step++) {
            int ring = tube.laid + step;
            search.add(yard.taperIn(stack, top - step), plan.sideBend(ring), plan.upBend(ring));
        }
    }

    private static void searchFrom(Search search, int step, int before) {
        if (step >= search.rings) {
            search.note();
            return;
        }
        if (search.atLeast(step) >= search.least) {
            return;
        }
        for (int position = 0; position < TO_SIDE.length; position++) {
            if (fits(before, position)) {
                search.tryOut(step, position);
                searchFrom(search, step + 1, position);
                search.takeBack(step, position);
            }
        }
    }

    private static void tryAllFrom(Search search, int step, int before) {
        if (step >= search.rings) {
            search.note();
            return;
        }
        for (int position = 0; position < TO_SIDE.length; position++) {
            if (fits(before, position)) {
                search.tryOut(step, position);
                tryAllFrom(search, step + 1, position);
                search.takeBack(step, position);
            }
        }
    }

    // ---- houses

    private int greatestSinking(int house) {
        int greatest = 0;
        for (int ring = houses.first[house]; ring <= houses.last[house]; ring++) {
            greatest = Math.max(greatest, ground.sinkingOver(ring));
        }
        return greatest;
    }

    private int leastSinking(int house) {
        int least = GREATEST_INT;
        for (int ring = houses.first[house]; ring <= houses.last[house]; ring++) {
            least = Math.min(least, ground.sinkingOver(ring));
        }
        return least;
    }

    private int paymentDue(int house) {
        int beyond = greatestSinking(house) - houses.limit[house];
        return beyond <= 0 ? 0 : beyond * houses.rate[house] - houses.paid[house];
    }

    /** The ground of the first rings, whether they have been laid or not. */
    private static final class Ground {
        final int[] need = new int[MAX_RINGS];
        final int[] weakness = new int[MAX_RINGS];
        final int[] sinking = new int[MAX_RINGS];
        int known;

        boolean isKnown(int ring) {
            return ring >= 0 && ring < known;
        }

        void extend(int rings, int newNeed, int newWeakness) {
            int end = Math.min(MAX_RINGS, known + rings);
            for (int ring = known; ring < end; ring++) {
                need[ring] = newNeed;
                weakness[ring] = newWeakness;
            }
            known = end;
        }

        int needOf(int ring) {
            return isKnown(ring) ? need[ring] : 0;
        }

        int weaknessOf(int ring) {
            return isKnown(ring) ? weakness[ring] : 0;
        }

        int sinkingOver(int ring) {
            return isKnown(ring) ? sinking[ring] : 0;
        }

        int missing(int ring, int pressure) {
            return Math.max(0, needOf(ring) - pressure);
        }

        void sink(int ring, int fall) {
            if (isKnown(ring)) {
                sinking[ring] += fall;
            }
        }
    }

    /** The planned bends. They may come later than the rings, so the planned line is not kept. */
    private static final class Plan {
        final int[] bendX = new int[MAX_RINGS];
        final int[] bendY = new int[MAX_RINGS];
        int planned;

        void extend(int rings, int newBendX, int newBendY) {
            int end = Math.min(MAX_RINGS, planned + rings);
            for (int ring = planned; ring < end; ring++) {
                bendX[ring] = newBendX;
                bendY[ring] = newBendY;
            }
            planned = end;
        }

        int sideBend(int ring) {
            return ring >= 0 && ring < planned ? bendX[ring] : 0;
        }

        int upBend(int ring) {
            return ring >= 0 && ring < planned ? bendY[ring] : 0;
        }
    }

    private static final class Houses {
        final int[] first = new int[MAX_HOUSES];
        final int[] last = new int[MAX_HOUSES];
        final int[] limit = new int[MAX_HOUSES];
        final int[] rate = new int[MAX_HOUSES];
        final int[] paid = new int[MAX_HOUSES];
        int built;

        int build(int firstRing, int lastRing, int newLimit, int newRate) {
            int house = built;
            first[house] = firstRing;
            last[house] = lastRing;
            limit[house] = newLimit;
            rate[house] = newRate;
            built = house + 1;
            return house;
        }
    }

    /** The stacks of rings, one behind the other in the same rows. */
    private static final class Yard {
        final int[] height = new int[STACKS];
        final int[] taper = new int[STACKS * MAX_HEIGHT];
        final int[] castAt = new int[STACKS * MAX_HEIGHT];

        boolean isFull(int stack) {
            return height[stack] >= MAX_HEIGHT;
        }

        void put(int stack, int newTaper, int castHour) {
            int index = stack * MAX_HEIGHT + height[stack];
            taper[index] = newTaper;
            castAt[index] = castHour;
            height[stack]++;
        }

        int taperIn(int stack, int place) {
            return taper[stack * MAX_HEIGHT + place];
        }

        int topTaper(int stack) {
            return taperIn(stack, height[stack] - 1);
        }

        void takeTop(int stack) {
            height[stack]--;
        }

        void move(int from, int to) {
            int index = from * MAX_HEIGHT + height[from] - 1;
            takeTop(from);
            put(to, taper[index], castAt[index]);
        }

        int hoursLeft(int stack, int place, int hour) {
            return Math.max(0, castAt[stack * MAX_HEIGHT + place] + HOURS_TO_CURE - hour);
        }

        int countRings() {
            int rings = 0;
            for (int stack = 0; stack < STACKS; stack++) {
                rings += height[stack];
            }
            return rings;
        }

        int countCured(int hour) {
            int cured = 0;
            for (int stack = 0; stack < STACKS; stack++) {
                for (int place = 0; place < height[stack]; place++) {
                    if (hoursLeft(stack, place, hour) == 0) {
                        cured++;
                    }
                }
            }
            return cured;
        }
    }

    /** Where a line is and where it heads, to the side and upward. */
    private static final class Course {
        int x;
        int y;
        int headingX;
        int headingY;

        void restart() {
            x = 0;
            y = 0;
            headingX = 0;
            headingY = 0;
        }

        void bend(int bendX, int bendY) {
            headingX += bendX;
            headingY += bendY;
            x += headingX;
            y += headingY;
        }

        void unbend(int bendX, int bendY) {
            x -= headingX;
            y -= headingY;
            headingX -= bendX;
            headingY -= bendY;
        }

        void addRing(int position, int taper) {
            bend(taper * TO_SIDE[position], taper * UPWARD[position]);
        }
    }

    /** The rings that have been laid, and the line that they make. */
    private static final class Tube {
        final int[] position = new int[MAX_RINGS];
        final int[] taper = new int[MAX_RINGS];
        final int[] keptX = new int[MAX_RINGS];
        final int[] keptY = new int[MAX_RINGS];
        final Course end = new Course();
        int laid;

        int lastPosition() {
            return laid == 0 ? NO_RING : position[laid - 1];
        }

        void append(int newPosition, int newTaper) {
            if (laid < MAX_RINGS) {
                end.addRing(newPosition, newTaper);
                position[laid] = newPosition;
                taper[laid] = newTaper;
                keptX[laid] = end.x;
                keptY[laid] = end.y;
                laid++;
            }
        }
    }

    /** What could come after the next rings: how far the line would be from the plan. */
    private static final class Search {
        final Course gap = new Course();
        final int[] taper = new int[MAX_AHEAD];
        final int[] bendX = new int[MAX_AHEAD];
        final int[] bendY = new int[MAX_AHEAD];
        int rings;
        int least;

        /** Line and plan are made in the same way, so the gap between them is such a course too. */
        void restart(Course line, Course planned) {
            gap.x = line.x - planned.x;
            gap.y = line.y - planned.y;
            gap.headingX = line.headingX - planned.headingX;
            gap.headingY = line.headingY - planned.headingY;
            rings = 0;
            least = GREATEST_INT;
        }

        void add(int ringTaper, int ringBendX, int ringBendY) {
            if (rings < MAX_AHEAD) {
                taper[rings] = ringTaper;
                bendX[rings] = ringBendX;
                bendY[rings] = ringBendY;
                rings++;
            }
        }

        void tryOut(int step, int position) {
            gap.bend(changeX(step, position), changeY(step, position));
        }

        void takeBack(int step, int position) {
            gap.unbend(changeX(step, position), changeY(step, position));
        }

        int changeX(int step, int position) {
            return taper[step] * TO_SIDE[position] - bendX[step];
        }

        int changeY(int step, int position) {
            return taper[step] * UPWARD[position] - bendY[step];
        }

        int deviation() {
            return Math.abs(gap.x) + Math.abs(gap.y);
        }

        /** The deviation with the first ring alone. */
        int deviationIn(int position) {
            tryOut(0, position);
            int deviation = deviation();
            takeBack(0, position);
            return deviation;
        }

        void note() {
            least = Math.min(least, deviation());
        }

        /**
         * What no choice of the positions from a step on gets below: a bend of a ring moves
         * each offset at the end once for this ring and once for each ring behind it, and a
         * position bends by the taper at most.
         */
        int atLeast(int step) {
            int x = gap.x + (rings - step) * gap.headingX;
            int y = gap.y + (rings - step) * gap.headingY;
            int reach = 0;
            for (int next = step; next < rings; next++) {
                int times = rings - next;
                x -= times * bendX[next];
                y -= times * bendY[next];
                reach += times * taper[next];
            }
            return Math.max(0, Math.abs(x) - reach) + Math.max(0, Math.abs(y) - reach);
        }
    }

    /** The line of text that was written last. */
    private static final class Text {
        final char[] sign = new char[RINGS_PER_LINE * 4];
        int length;

        void clear() {
            length = 0;
        }

        void put(char newSign) {
            if (length < sign.length) {
                sign[length] = newSign;
                length++;
            }
        }

        void putDigit(int digit) {
            put((char) ('0' + digit));
        }
    }
}
