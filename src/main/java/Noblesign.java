import java.util.ArrayList;
import java.util.NoSuchElementException;

/**
 * A sign of letters of light: strokes between points, the plan of tubes that draw them, the tubes
 * as they are bent, pumped, filled and broken, the circuits that light them, and the street.
 */
public final class Noblesign {
    private static final int MOST_TUBES = 10;
    private static final int MOST_CIRCUITS = 4;
    private static final int MOST_HOURS = 99999;
    private static final int HOURS_OF_DAY = 24;
    private static final int LAST_SECOND = 3599;

    private static final int NARROWEST = 8;
    private static final int WIDEST = 25;

    private static final long DRAW_FACTOR = 48271L;
    private static final int DRAW_MODULUS = 2147483647;

    private static final int COST_OF_PUMPING = 5;
    private static final int COST_OF_FILL = 20;

    private static final char STRAIGHT = 's';
    private static final char BENT = 'b';
    private static final char ON_PLANT = 'p';
    private static final char FILLED = 'f';
    private static final char BROKEN = 'x';

    private static final char NEON = 'n';
    private static final char ARGON = 'a';

    private static final char EMPTY = 'e';
    private static final char TOO_MUCH = 'o';
    private static final char TOO_LITTLE = 'u';
    private static final char READY = '-';

    private final Lettering lettering;
    private final Plan plan;
    private final ArrayList<Tube> tubes;
    private final ArrayList<Circuit> circuits;
    private int breakRisk;
    private int z;
    private int warmth;
    private int hoursGone;
    private int allowedLight;
    private int darkFrom;
    private int darkUntil;
    private int bills;

    public Noblesign() {
        plan = new Plan();
        lettering = plan.lettering;
        tubes = new ArrayList<>();
        circuits = new ArrayList<>();
        z = 1;
        warmth = 20;
        allowedLight = 9999;
    }

    // Strokes and the plan.

    public int point(int x, int y)
            throws IllegalArgumentException, UnsupportedOperationException, IllegalStateException {
        requireRange(x, 0, 99);
        requireRange(y, 0, 99);
        if (lettering.hasPlace(x, y)) {
            throw new UnsupportedOperationException("there is a point at this place");
        }
        if (lettering.isFullOfPoints()) {
            throw new IllegalStateException("there are 12 points");
        }
        return lettering.addPoint(x, y);
    }

    public int stroke(int point, int other)
            throws IndexOutOfBoundsException, IllegalArgumentException,
            UnsupportedOperationException, IllegalStateException {
        requirePoints(point, other);
        if (point == other) {
            throw new IllegalArgumentException("a stroke joins two points");
        }
        if (lettering.isJoined(point, other)) {
            throw new UnsupportedOperationException("there is a stroke between them");
        }
        if (lettering.isFullOfStrokes()) {
            throw new IllegalStateException("there are 18 strokes");
        }
        lettering.addStroke(point, other);
        plan.lay();
        return lettering.strokeCount;
    }

    public int erase(int point, int other) throws IndexOutOfBoundsException, UnsupportedOperationException {
        requirePoints(point, other);
        if (!lettering.isJoined(point, other)) {
            throw new UnsupportedOperationException("there is no stroke between them");
        }
        lettering.removeStroke(point, other);
        plan.lay();
        return lettering.strokeCount;
    }

    public int parts() {
        return lettering.partCount();
    }

    public int odd() {
        return lettering.oddPoints(Lettering.ALL_POINTS);
    }

    public int fewest() {
        return lettering.fewestTubes();
    }

    public int planned() {
        return plan.tubeCount;
    }

    public int points(int tube) throws NoSuchElementException {
        requirePlanned(tube);
        return plan.pointCount(tube);
    }

    public int through(int tube, int index) throws NoSuchElementException {
        int found = plan.pointAt(tube, index);
        if (found < 0) {
            throw new NoSuchElementException("the tube of the plan has no such point");
        }
        return found;
    }

    public int corners(int tube, boolean areSharp) throws NoSuchElementException {
        requirePlanned(tube);
        return areSharp ? Integer.bitCount(plan.sharpTurns(tube)) : plan.turnCount(tube);
    }

    // Tubes.

    public int make(int tube, int width)
            throws IllegalArgumentException, NoSuchElementException, IllegalStateException {
        requireRange(width, NARROWEST, WIDEST);
        requirePlanned(tube);
        if (tubes.size() >= MOST_TUBES) {
            throw new IllegalStateException("there are 10 tubes");
        }
        int number = tubes.size();
        int measure = plan.measure(tube);
        tubes.add(new Tube(number, width, measure, plan.turnCount(tube), plan.sharpTurns(tube)));
        bills += (measure + 9) / 10;
        return number;
    }

    public int length(int tube) throws IndexOutOfBoundsException {
        return tubeAt(tube).measure;
    }

    public char state(int tube) throws IndexOutOfBoundsException {
        return tubeAt(tube).letter;
    }

    public int risk(int risk) throws IllegalArgumentException {
        requireRange(risk, 0, 60);
        int before = breakRisk;
        breakRisk = risk;
        return before;
    }

    public int seed(int z) throws IllegalArgumentException {
        requireRange(z, 1, DRAW_MODULUS - 1);
        int before = this.z;
        this.z = z;
        return before;
    }

    public int bend(int tube) throws IndexOutOfBoundsException, UnsupportedOperationException {
        Tube found = tubeAt(tube);
        requireLetter(found, STRAIGHT);
        bills += found.minutesOfNextTurn();
        boolean breaks = drawOfHundred() < found.riskOfNextTurn(breakRisk);
        if (breaks) {
            found.letter = BROKEN;
            return -1;
        }
        return found.bendNextTurn();
    }

    public int put(int tube, boolean leaks, int powder)
            throws IndexOutOfBoundsException, IllegalArgumentException, UnsupportedOperationException {
        Tube found = tubeAt(tube);
        requireRange(powder, 0, 4);
        requireLetter(found, BENT);
        found.mountOnPlant(leaks, powder);
        return found.gasInside;
    }

    public int pump(int tube, int minutes)
            throws IndexOutOfBoundsException, IllegalArgumentException, UnsupportedOperationException {
        Tube found = tubeAt(tube);
        requireRange(minutes, 1, 60);
        requireLetter(found, ON_PLANT);
        found.pumpFor(minutes);
        bills += COST_OF_PUMPING;
        return found.gasInside;
    }

    public int bombard(int tube, int degrees)
            throws IndexOutOfBoundsException, IllegalArgumentException, UnsupportedOperationException {
        Tube found = tubeAt(tube);
        requireRange(degrees, 100, 400);
        requireLetter(found, ON_PLANT);
        if (found.isLeaky) {
            throw new UnsupportedOperationException("the tube leaks");
        }
        found.heatTo(degrees);
        return found.gasInside;
    }

    public boolean mend(int tube) throws IndexOutOfBoundsException, UnsupportedOperationException {
        Tube found = tubeAt(tube);
        requireLetter(found, ON_PLANT);
        boolean wasLeaky = found.isLeaky;
        found.isLeaky = false;
        return wasLeaky;
    }

    public int gas(int tube, boolean inGlass) throws IndexOutOfBoundsException, NoSuchElementException {
        Tube found = tubeAt(tube);
        if (found.letter != ON_PLANT) {
            throw new NoSuchElementException("the tube is not on the plant");
        }
        return inGlass ? found.gasInGlass : found.gasInside;
    }

    public int fill(int tube, char gas, int pressure)
            throws IndexOutOfBoundsException, IllegalArgumentException, UnsupportedOperationException {
        Tube found = tubeAt(tube);
        if (gas != NEON && gas != ARGON) {
            throw new IllegalArgumentException("there is no such gas");
        }
        requireRange(pressure, 5, 20);
        requireLetter(found, ON_PLANT);
        if (!found.mayBeFilled()) {
            throw new UnsupportedOperationException("the tube may not be filled");
        }
        found.fillWith(gas, pressure);
        bills += COST_OF_FILL;
        return found.tint();
    }

    public int colour(int tube) throws IndexOutOfBoundsException, NoSuchElementException {
        return filledTubeAt(tube).tint();
    }

    public int gives(int tube) throws IndexOutOfBoundsException, NoSuchElementException {
        return filledTubeAt(tube).lightIn(warmth);
    }

    public boolean smash(int tube) throws IndexOutOfBoundsException, UnsupportedOperationException {
        Tube found = tubeAt(tube);
        if (found.letter == BROKEN) {
            throw new UnsupportedOperationException("the tube is broken");
        }
        boolean wasFilled = found.letter == FILLED;
        found.letter = BROKEN;
        return wasFilled;
    }

    // Circuits and hours.

    public int circuit(int rating) throws IllegalArgumentException, IllegalStateException {
        requireRange(rating, 10, 2000);
        if (circuits.size() >= MOST_CIRCUITS) {
            throw new IllegalStateException("there are 4 circuits");
        }
        int number = circuits.size();
        circuits.add(new Circuit(rating));
        return number;
    }

    public int join(int circuit, int tube) throws IndexOutOfBoundsException, UnsupportedOperationException {
        Circuit found = circuitAt(circuit);
        Tube last = tubeAt(tube);
        requireLetter(last, FILLED);
        if (circuitsWith(last) > 0) {
            throw new UnsupportedOperationException("the tube is in a circuit");
        }
        found.row.add(last);
        return found.loadSum();
    }

    public int part(int circuit, int tube) throws IndexOutOfBoundsException, UnsupportedOperationException {
        Circuit found = circuitAt(circuit);
        Tube parted = tubeAt(tube);
        if (!found.takeOut(parted)) {
            throw new UnsupportedOperationException("the tube is not in this circuit");
        }
        return found.loadSum();
    }

    public int load(int circuit) throws IndexOutOfBoundsException {
        return circuitAt(circuit).loadSum();
    }

    public char circuitIs(int circuit) throws IndexOutOfBoundsException {
        return circuitAt(circuit).letter();
    }

    public int cause(int circuit) throws IndexOutOfBoundsException, NoSuchElementException {
        Tube broken = circuitAt(circuit).firstBroken();
        if (broken == null) {
            throw new NoSuchElementException("no tube of the circuit is broken");
        }
        return broken.number;
    }

    public boolean program(int circuit, int hour, boolean isOn)
            throws IndexOutOfBoundsException, IllegalArgumentException {
        Circuit found = circuitAt(circuit);
        requireRange(hour, 0, HOURS_OF_DAY - 1);
        boolean wasOn = found.isOnAt(hour);
        found.switchAt(hour, isOn);
        return wasOn;
    }

    public int chase(int circuit, int steps, int on)
            throws IndexOutOfBoundsException, IllegalArgumentException {
        Circuit found = circuitAt(circuit);
        requireRange(steps, 1, 8);
        requireRange(on, 0, (1 << steps) - 1);
        int before = found.stepCount;
        found.stepCount = steps;
        found.stepBits = on;
        return before;
    }

    public boolean shows(int circuit, int second) throws IndexOutOfBoundsException, IllegalArgumentException {
        Circuit found = circuitAt(circuit);
        requireRange(second, 0, LAST_SECOND);
        return found.canBeLit() && found.isOnAt(hourOfDay()) && found.isStepOnAt(second);
    }

    public int air(int degrees) throws IllegalArgumentException {
        requireRange(degrees, -40, 40);
        int before = warmth;
        warmth = degrees;
        return before;
    }

    public int hours(int many) throws IllegalArgumentException, IllegalStateException {
        requireRange(many, 1, 999);
        if (hoursGone + many > MOST_HOURS) {
            throw new IllegalStateException("there would be more than 99999 hours");
        }
        for (int i = 0; i < circuits.size(); i++) {
            circuits.get(i).burnFor(hourOfDay(), many);
        }
        hoursGone += many;
        return hourOfDay();
    }

    public int lit(int tube) throws IndexOutOfBoundsException {
        return tubeAt(tube).hoursLit;
    }

    // The street and sums.

    public int allow(int light) throws IllegalArgumentException {
        requireRange(light, 0, 9999);
        int before = allowedLight;
        allowedLight = light;
        return before;
    }

    public int dark(int from, int until) throws IllegalArgumentException {
        requireRange(from, 0, HOURS_OF_DAY - 1);
        requireRange(until, 0, HOURS_OF_DAY - 1);
        int before = HOURS_OF_DAY * darkFrom + darkUntil;
        darkFrom = from;
        darkUntil = until;
        return before;
    }

    public int breach() throws NoSuchElementException {
        for (int hour = 0; hour < HOURS_OF_DAY; hour++) {
            if (isBreachedAt(hour)) {
                return hour;
            }
        }
        throw new NoSuchElementException("the street is not breached");
    }

    public int hail(int width) throws IllegalArgumentException {
        requireRange(width, NARROWEST, WIDEST);
        int many = 0;
        for (int i = 0; i < tubes.size(); i++) {
            Tube hit = tubes.get(i);
            if (hit.letter == FILLED && hit.width > width) {
                hit.letter = BROKEN;
                many++;
            }
        }
        return many;
    }

    public int bill() {
        return bills;
    }

    public long checksum() {
        long sum = 7;
        for (int i = 0; i < tubes.size(); i++) {
            Tube next = tubes.get(i);
            sum = 31 * sum + next.letter;
            sum = 31 * sum + next.measure;
            sum = 31 * sum + next.hoursLit;
        }
        for (int i = 0; i < circuits.size(); i++) {
            sum = 31 * sum + circuits.get(i).loadSum();
        }
        sum = 31 * sum + bills;
        return 31 * sum + z;
    }

    public float filledShare() throws NoSuchElementException {
        if (tubes.isEmpty()) {
            throw new NoSuchElementException("there are no tubes");
        }
        int filled = 0;
        for (int i = 0; i < tubes.size(); i++) {
            if (tubes.get(i).letter == FILLED) {
                filled++;
            }
        }
        return (float) filled / (float) tubes.size();
    }

    public double meanLength() throws NoSuchElementException {
        if (lettering.strokeCount < 1) {
            throw new NoSuchElementException("there are no strokes");
        }
        return (double) lettering.measureOfAll() / (double) lettering.strokeCount;
    }

    public boolean isSound() {
        return plan.drawsEachStrokeOnce()
                && plan.tubeCount >= lettering.fewestTubes()
                && isEachTubeInOneCircuitAtMost()
                && areCircuitsOfFilledOrBroken();
    }

    // What several of the calls above have in common.

    private static void requireRange(int number, int least, int most) {
        if (number < least || number > most) {
            throw new IllegalArgumentException("a number is out of range");
        }
    }

    private static void requireLetter(Tube tube, char letter) {
        if (tube.letter != letter) {
            throw new UnsupportedOperationException("the tube is in another state");
        }
    }

    private void requirePoints(int point, int other) {
        if (!lettering.hasPoint(point) || !lettering.hasPoint(other)) {
            throw new IndexOutOfBoundsException("there is no such point");
        }
    }

    private void requirePlanned(int tube) {
        if (!plan.hasTube(tube)) {
            throw new NoSuchElementException("the plan has no such tube");
        }
    }

    private Tube tubeAt(int number) {
        if (number < 0 || number >= tubes.size()) {
            throw new IndexOutOfBoundsException("there is no such tube");
        }
        return tubes.get(number);
    }

    private Tube filledTubeAt(int number) {
        Tube found = tubeAt(number);
        if (found.letter != FILLED) {
            throw new NoSuchElementException("the tube is not filled");
        }
        return found;
    }

    private Circuit circuitAt(int number) {
        if (number < 0 || number >= circuits.size()) {
            throw new IndexOutOfBoundsException("there is no such circuit");
        }
        return circuits.get(number);
    }

    private int circuitsWith(Tube tube) {
        int many = 0;
        for (int i = 0; i < circuits.size(); i++) {
            if (circuits.get(i).holds(tube)) {
                many++;
            }
        }
        return many;
    }

    private int drawOfHundred() {
        z = (int) (z * DRAW_FACTOR % DRAW_MODULUS);
        return z % 100;
    }

    private int hourOfDay() {
        return hoursGone % HOURS_OF_DAY;
    }

    private boolean isBreachedAt(int hour) {
        int light = lightAt(hour);
        return light > allowedLight || light > 0 && isDarkAt(hour);
    }

    private int lightAt(int hour) {
        int light = 0;
        for (int i = 0; i < circuits.size(); i++) {
            Circuit next = circuits.get(i);
            if (next.isOnAt(hour) && next.canBeLit()) {
                light += next.lightIn(warmth);
            }
        }
        return light;
    }

    private boolean isDarkAt(int hour) {
        // Counted from the first dark hour on, so that midnight is an hour like any other.
        int since = Math.floorMod(hour - darkFrom, HOURS_OF_DAY);
        return since < Math.floorMod(darkUntil - darkFrom, HOURS_OF_DAY);
    }

    private boolean isEachTubeInOneCircuitAtMost() {
        for (int i = 0; i < tubes.size(); i++) {
            if (circuitsWith(tubes.get(i)) > 1) {
                return false;
            }
        }
        return true;
    }

    private boolean areCircuitsOfFilledOrBroken() {
        for (int i = 0; i < circuits.size(); i++) {
            if (!circuits.get(i).isOfFilledOrBroken()) {
                return false;
            }
        }
        return true;
    }

    /** The points and the strokes between them. */
    private static final class Lettering {
        static final int MOST_POINTS = 12;
        static final int MOST_STROKES = 18;
        static final int ALL_POINTS = (1 << MOST_POINTS) - 1;
        // A stroke across the whole field is the longest.
        private static final int LONGEST = 140;

        private final int[] xs;
        private final int[] ys;
        // Bit q of joined[p] stands for the stroke from p to q, so each stroke stands in two rows.
        private final int[] joined;
        private int pointCount;
        private int strokeCount;

        Lettering() {
            xs = new int[MOST_POINTS];
            ys = new int[MOST_POINTS];
            joined = new int[MOST_POINTS];
        }

        boolean isFullOfPoints() {
            return pointCount >= MOST_POINTS;
        }

        boolean isFullOfStrokes() {
            return strokeCount >= MOST_STROKES;
        }

        boolean hasPoint(int number) {
            return number >= 0 && number < pointCount && number < MOST_POINTS;
        }

        int xOf(int point) {
            return hasPoint(point) ? xs[point] : 0;
        }

        int yOf(int point) {
            return hasPoint(point) ? ys[point] : 0;
        }

        /** The points that a point is joined with, as bits. */
        int joinedWith(int point) {
            return hasPoint(point) ? joined[point] : 0;
        }

        boolean hasPlace(int x, int y) {
            for (int p = 0; p < pointCount; p++) {
                if (xOf(p) == x && yOf(p) == y) {
                    return true;
                }
            }
            return false;
        }

        int addPoint(int x, int y) {
            int number = pointCount;
            if (number < MOST_POINTS) {
                xs[number] = x;
                ys[number] = y;
                pointCount++;
            }
            return number;
        }

        boolean isJoined(int p, int q) {
            return hasPoint(q) && (joinedWith(p) >> q & 1) != 0;
        }

        void addStroke(int p, int q) {
            if (hasPoint(p) && hasPoint(q)) {
                joined[p] |= 1 << q;
                joined[q] |= 1 << p;
                strokeCount++;
            }
        }

        void removeStroke(int p, int q) {
            if (hasPoint(p) && hasPoint(q)) {
                joined[p] &= ~(1 << q);
                joined[q] &= ~(1 << p);
                strokeCount--;
            }
        }

        int partCount() {
            int many = 0;
            for (int p = 0; p < pointCount; p++) {
                if (isFirstOfPart(p)) {
                    many++;
                }
            }
            return many;
        }

        int fewestTubes() {
            int many = 0;
            for (int p = 0; p < pointCount; p++) {
                if (isFirstOfPart(p)) {
                    many += Math.max(1, oddPoints(partOf(p)) / 2);
                }
            }
            return many;
        }

        /** How many of the points that are told as bits have an odd number of strokes. */
        int oddPoints(int among) {
            int many = 0;
            for (int p = 0; p < pointCount; p++) {
                if ((among >> p & 1) != 0) {
                    many += Integer.bitCount(joinedWith(p)) & 1;
                }
            }
            return many;
        }

        private boolean isFirstOfPart(int point) {
            int lower = (1 << point) - 1;
            return joinedWith(point) != 0 && (partOf(point) & lower) == 0;
        }

        /** The points that hang together with a point, itself included, as bits. */
        private int partOf(int point) {
            int part = 1 << point;
            // Each round reaches at least one stroke further, and no way needs more than all points.
            for (int round = 0; round < MOST_POINTS; round++) {
                for (int p = 0; p < pointCount; p++) {
                    if ((part >> p & 1) != 0) {
                        part |= joinedWith(p);
                    }
                }
            }
            return part;
        }

        int measureOfAll() {
            int sum = 0;
            for (int p = 0; p < pointCount; p++) {
                for (int q = p + 1; q < pointCount; q++) {
                    if (isJoined(p, q)) {
                        sum += measureBetween(p, q);
                    }
                }
            }
            return sum;
        }

        int measureBetween(int p, int q) {
            int across = xOf(q) - xOf(p);
            int up = yOf(q) - yOf(p);
            return rootOf(across * across + up * up);
        }

        private static int rootOf(int square) {
            int root = 0;
            while (root < LONGEST && (root + 1) * (root + 1) <= square) {
                root++;
            }
            return root;
        }
    }

    /** The tubes that draw the strokes, one behind the other. It is laid anew when strokes change. */
    private static final class Plan {
        private static final int MOST_PATH = 2 * Lettering.MOST_STROKES;
        private static final int NO_TURN = 0;
        private static final int TURN = 1;
        private static final int SHARP_TURN = 2;

        private final Lettering lettering;
        // The points of all tubes in a row; tube t has those from starts[t] on, up to starts[t + 1].
        private final int[] path;
        private final int[] starts;
        // The strokes that are still to be drawn, in the form of Lettering.joined.
        private final int[] left;
        private int pathCount;
        private int tubeCount;

        Plan() {
            lettering = new Lettering();
            path = new int[MOST_PATH];
            starts = new int[Lettering.MOST_STROKES + 1];
            left = new int[Lettering.MOST_POINTS];
        }

        void lay() {
            pathCount = 0;
            tubeCount = 0;
            leaveAll();
            int begin = nextBegin();
            for (int i = 0; i < Lettering.MOST_STROKES && begin >= 0; i++) {
                layTube(begin);
                begin = nextBegin();
            }
        }

        private void leaveAll() {
            for (int p = 0; p < left.length; p++) {
                left[p] = lettering.joinedWith(p);
            }
        }

        /** The point that the next tube begins at, -1 if all strokes are drawn. */
        private int nextBegin() {
            int lowest = -1;
            for (int p = left.length - 1; p >= 0; p--) {
                if (left[p] != 0) {
                    lowest = p;
                }
            }
            for (int p = left.length - 1; p >= 0; p--) {
                if ((Integer.bitCount(left[p]) & 1) != 0) {
                    lowest = p;
                }
            }
            return lowest;
        }

        private void layTube(int begin) {
            addToPath(begin);
            int at = begin;
            int next = nextFrom(at);
            for (int i = 0; i < Lettering.MOST_STROKES && next >= 0; i++) {
                takeLeft(at, next);
                addToPath(next);
                at = next;
                next = nextFrom(at);
            }
            tubeCount++;
            if (tubeCount < starts.length) {
                starts[tubeCount] = pathCount;
            }
        }

        private void addToPath(int point) {
            if (pathCount < path.length) {
                path[pathCount] = point;
                pathCount++;
            }
        }

        /** The lowest point that a stroke which is left goes to, -1 if there is none. */
        private int nextFrom(int point) {
            for (int q = 0; q < left.length; q++) {
                if (isLeft(point, q)) {
                    return q;
                }
            }
            return -1;
        }

        private boolean isLeft(int p, int q) {
            return isRow(p) && isRow(q) && (left[p] >> q & 1) != 0;
        }

        private void takeLeft(int p, int q) {
            if (isRow(p) && isRow(q)) {
                left[p] &= ~(1 << q);
                left[q] &= ~(1 << p);
            }
        }

        private boolean isRow(int point) {
            return point >= 0 && point < left.length;
        }

        boolean hasTube(int tube) {
            return tube >= 0 && tube < tubeCount && tube + 1 < starts.length;
        }

        int pointCount(int tube) {
            return hasTube(tube) ? starts[tube + 1] - starts[tube] : 0;
        }

        /** The point of a tube at an index, -1 if there is none. */
        int pointAt(int tube, int index) {
            if (!hasTube(tube) || index < 0 || index >= path.length) {
                return -1;
            }
            int place = starts[tube] + index;
            boolean isOfTube = place < starts[tube + 1] && place >= 0 && place < path.length;
            return isOfTube ? path[place] : -1;
        }

        int measure(int tube) {
            int sum = 0;
            for (int i = 1; i < pointCount(tube); i++) {
                sum += lettering.measureBetween(pointAt(tube, i - 1), pointAt(tube, i));
            }
            return sum;
        }

        int turnCount(int tube) {
            int many = 0;
            for (int i = 1; i < pointCount(tube) - 1; i++) {
                if (turnAt(tube, i) != NO_TURN) {
                    many++;
                }
            }
            return many;
        }

        /** Which of the turns of a tube are sharp, as bits, 1 for the first turn. */
        int sharpTurns(int tube) {
            int bits = 0;
            int turn = 0;
            for (int i = 1; i < pointCount(tube) - 1; i++) {
                int kind = turnAt(tube, i);
                bits |= kind == SHARP_TURN ? 1 << turn : 0;
                turn += kind != NO_TURN ? 1 : 0;
            }
            return bits;
        }

        private int turnAt(int tube, int index) {
            int inX = acrossTo(tube, index);
            int inY = upTo(tube, index);
            int outX = acrossTo(tube, index + 1);
            int outY = upTo(tube, index + 1);
            // The way wholly back is in line with the way that it came, so this is asked first.
            if (inX * outX + inY * outY < 0) {
                return SHARP_TURN;
            }
            return inX * outY == inY * outX ? NO_TURN : TURN;
        }

        private int acrossTo(int tube, int index) {
            return lettering.xOf(pointAt(tube, index)) - lettering.xOf(pointAt(tube, index - 1));
        }

        private int upTo(int tube, int index) {
            return lettering.yOf(pointAt(tube, index)) - lettering.yOf(pointAt(tube, index - 1));
        }

        boolean drawsEachStrokeOnce() {
            leaveAll();
            for (int tube = 0; tube < tubeCount; tube++) {
                for (int i = 1; i < pointCount(tube); i++) {
                    int from = pointAt(tube, i - 1);
                    int to = pointAt(tube, i);
                    if (!isLeft(from, to)) {
                        return false;
                    }
                    takeLeft(from, to);
                }
            }
            return nextBegin() < 0;
        }
    }

    /** A tube that was made, with its glass, what is in it, and the hours that it was lit. */
    private static final class Tube {
        private static final int COLD = 5;

        private final int number;
        private final int width;
        private final int measure;
        private final int turnCount;
        // Bit i stands for turn i, 1 if it is sharp.
        private final int sharpTurns;
        private int bentTurns;
        private char letter;
        private boolean isLeaky;
        // Burnt powder counts as none, so it is 0 as well.
        private int powder;
        private int gasInside;
        private int gasInGlass;
        private char filledWith;
        private int pressure;
        private int hoursLit;

        Tube(int number, int width, int measure, int turnCount, int sharpTurns) {
            this.number = number;
            this.width = width;
            this.measure = measure;
            this.turnCount = turnCount;
            this.sharpTurns = sharpTurns;
            letter = turnCount > 0 ? STRAIGHT : BENT;
        }

        private boolean isNextTurnSharp() {
            return (sharpTurns >> bentTurns & 1) != 0;
        }

        int minutesOfNextTurn() {
            return isNextTurnSharp() ? width + 5 : width;
        }

        int riskOfNextTurn(int risk) {
            return isNextTurnSharp() ? 2 * risk : risk;
        }

        /** Answers how many turns are left. */
        int bendNextTurn() {
            bentTurns++;
            if (bentTurns >= turnCount) {
                letter = BENT;
            }
            return turnCount - bentTurns;
        }

        void mountOnPlant(boolean leaks, int withPowder) {
            letter = ON_PLANT;
            isLeaky = leaks;
            powder = withPowder;
            gasInside = 1000;
            gasInGlass = 300;
        }

        void pumpFor(int minutes) {
            for (int minute = 0; minute < minutes; minute++) {
                gasInside -= (gasInside + 9) / 10;
                gasInside += isLeaky ? 40 : 0;
            }
        }

        void heatTo(int degrees) {
            int freed = gasInGlass * degrees / 400;
            gasInGlass -= freed;
            gasInside += freed;
            if (degrees > 300) {
                powder = 0;
            }
        }

        boolean mayBeFilled() {
            return gasInside <= 10 && gasInGlass <= 60 && !isLeaky;
        }

        void fillWith(char gas, int atPressure) {
            letter = FILLED;
            filledWith = gas;
            pressure = atPressure;
        }

        int tint() {
            return (filledWith == NEON ? 10 : 20) + powder;
        }

        int lightIn(int degrees) {
            int full = 100 - 5 * Math.abs(pressure - 12) - hoursLit / 500;
            int light = Math.max(0, full);
            return filledWith == ARGON && degrees < COLD ? light / 2 : light;
        }
    }

    /** A transformer with its tubes in a row, and when it is on. */
    private static final class Circuit {
        private final int rating;
        private final ArrayList<Tube> row;
        // Bit h stands for the hour h of the day, bit s of the others for the step s of the chase.
        private int hourBits;
        private int stepBits;
        private int stepCount;

        Circuit(int rating) {
            this.rating = rating;
            row = new ArrayList<>();
            stepBits = 1;
            stepCount = 1;
        }

        boolean holds(Tube tube) {
            return placeOf(tube) >= 0;
        }

        /** Answers whether the tube was in the row. */
        boolean takeOut(Tube tube) {
            int place = placeOf(tube);
            if (place < 0 || place >= row.size()) {
                return false;
            }
            row.remove(place);
            return true;
        }

        /** The place of a tube in the row, -1 if it is not in it. */
        private int placeOf(Tube tube) {
            for (int i = 0; i < row.size(); i++) {
                if (row.get(i) == tube) {
                    return i;
                }
            }
            return -1;
        }

        int loadSum() {
            int sum = 0;
            for (int i = 0; i < row.size(); i++) {
                sum += row.get(i).measure + 10;
            }
            return sum;
        }

        char letter() {
            if (row.isEmpty()) {
                return EMPTY;
            }
            if (firstBroken() != null) {
                return BROKEN;
            }
            int sum = loadSum();
            if (sum > rating) {
                return TOO_MUCH;
            }
            return 5 * sum < 4 * rating ? TOO_LITTLE : READY;
        }

        boolean canBeLit() {
            return letter() == READY;
        }

        /** The first broken tube of the row, null if there is none. */
        Tube firstBroken() {
            for (int i = 0; i < row.size(); i++) {
                if (row.get(i).letter == BROKEN) {
                    return row.get(i);
                }
            }
            return null;
        }

        boolean isOfFilledOrBroken() {
            for (int i = 0; i < row.size(); i++) {
                char letter = row.get(i).letter;
                if (letter != FILLED && letter != BROKEN) {
                    return false;
                }
            }
            return true;
        }

        boolean isOnAt(int hour) {
            return (hourBits >> hour & 1) != 0;
        }

        void switchAt(int hour, boolean isOn) {
            int bit = 1 << hour;
            hourBits = isOn ? hourBits | bit : hourBits & ~bit;
        }

        boolean isStepOnAt(int second) {
            return stepCount > 0 && (stepBits >> second % stepCount & 1) != 0;
        }

        /** Lights the tubes in each hour that is on, if they can be lit. */
        void burnFor(int hour, int many) {
            if (!canBeLit()) {
                return;
            }
            int on = hoursOn(hour, many);
            for (int i = 0; i < row.size(); i++) {
                row.get(i).hoursLit += on;
            }
        }

        /** How many of so many hours from one on are on. */
        private int hoursOn(int hour, int many) {
            int on = many / HOURS_OF_DAY * Integer.bitCount(hourBits);
            for (int i = 0; i < many % HOURS_OF_DAY; i++) {
                if (isOnAt((hour + i) % HOURS_OF_DAY)) {
                    on++;
                }
            }
            return on;
        }

        int lightIn(int degrees) {
            int light = 0;
            for (int i = 0; i < row.size(); i++) {
                light += row.get(i).lightIn(degrees);
            }
            return light;
        }
    }
}
