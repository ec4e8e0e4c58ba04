import java.util.ArrayList;
import java.util.List;
import java.util.NoSuchElementException;
import java.util.TreeSet;

/**
 * A second sign, written from the document in another way and without care for speed: nothing is
 * kept that can be told anew. The random runs of RandomRunsTest compare it with Noblesign.
 */
final class SlowSign {
    private record Stroke(int low, int high) {
    }

    private static final class Glass {
        int width;
        int size;
        List<Boolean> turnsLeft = new ArrayList<>();
        char letter;
        boolean leak;
        int powder;
        boolean burnt;
        int gas;
        int inGlass;
        char with;
        int pressure;
        int hours;
        int circuit = -1;
    }

    private static final class Row {
        int rating;
        List<Integer> tubes = new ArrayList<>();
        boolean[] day = new boolean[24];
        List<Boolean> steps = new ArrayList<>(List.of(true));
    }

    private final List<int[]> places = new ArrayList<>();
    private final List<Stroke> strokes = new ArrayList<>();
    private final List<Glass> tubes = new ArrayList<>();
    private final List<Row> circuits = new ArrayList<>();
    private int risk = 0;
    private long z = 1;
    private int air = 20;
    private int now = 0;
    private int allowed = 9999;
    private int from = 0;
    private int until = 0;
    private int bill = 0;

    int point(int x, int y) {
        argument(x >= 0 && x <= 99 && y >= 0 && y <= 99);
        for (int[] place : places) {
            supported(place[0] != x || place[1] != y);
        }
        free(places.size() != 12);
        places.add(new int[] {x, y});
        return places.size() - 1;
    }

    int stroke(int point, int other) {
        Stroke stroke = between(point, other);
        argument(point != other);
        supported(!strokes.contains(stroke));
        free(strokes.size() != 18);
        strokes.add(stroke);
        return strokes.size();
    }

    int erase(int point, int other) {
        supported(strokes.remove(between(point, other)));
        return strokes.size();
    }

    private Stroke between(int point, int other) {
        index(point, places.size());
        index(other, places.size());
        return new Stroke(Math.min(point, other), Math.max(point, other));
    }

    int parts() {
        return partsOfPoints().size();
    }

    private List<TreeSet<Integer>> partsOfPoints() {
        List<TreeSet<Integer>> parts = new ArrayList<>();
        for (Stroke stroke : strokes) {
            TreeSet<Integer> whole = new TreeSet<>(List.of(stroke.low, stroke.high));
            List<TreeSet<Integer>> apart = new ArrayList<>();
            for (TreeSet<Integer> part : parts) {
                if (part.contains(stroke.low) || part.contains(stroke.high)) {
                    whole.addAll(part);
                } else {
                    apart.add(part);
                }
            }
            apart.add(whole);
            parts = apart;
        }
        return parts;
    }

    private static boolean isOdd(int point, List<Stroke> of) {
        return of.stream().filter(stroke -> stroke.low == point || stroke.high == point).count() % 2 == 1;
    }

    int odd() {
        int odd = 0;
        for (int point = 0; point < places.size(); point++) {
            odd += isOdd(point, strokes) ? 1 : 0;
        }
        return odd;
    }

    int fewest() {
        int sum = 0;
        for (TreeSet<Integer> part : partsOfPoints()) {
            long odd = part.stream().filter(point -> isOdd(point, strokes)).count();
            sum += odd == 0 ? 1 : (int) odd / 2;
        }
        return sum;
    }

    private List<List<Integer>> plan() {
        List<List<Integer>> plan = new ArrayList<>();
        List<Stroke> left = new ArrayList<>(strokes);
        while (!left.isEmpty()) {
            TreeSet<Integer> odd = new TreeSet<>();
            TreeSet<Integer> any = new TreeSet<>();
            for (Stroke stroke : left) {
                any.add(stroke.low);
                any.add(stroke.high);
            }
            any.stream().filter(point -> isOdd(point, left)).forEach(odd::add);
            List<Integer> way = new ArrayList<>();
            int at = odd.isEmpty() ? any.first() : odd.first();
            way.add(at);
            for (int next = 0; next < places.size(); next++) {
                if (left.remove(new Stroke(Math.min(at, next), Math.max(at, next)))) {
                    way.add(next);
                    at = next;
                    next = -1;
                }
            }
            plan.add(way);
        }
        return plan;
    }

    int planned() {
        return plan().size();
    }

    private List<Integer> way(int tube) {
        List<List<Integer>> plan = plan();
        there(tube >= 0 && tube < plan.size());
        return plan.get(tube);
    }

    int points(int tube) {
        return way(tube).size();
    }

    int through(int tube, int index) {
        List<Integer> way = way(tube);
        there(index >= 0 && index < way.size());
        return way.get(index);
    }

    private int squared(int point, int other) {
        int x = places.get(point)[0] - places.get(other)[0];
        int y = places.get(point)[1] - places.get(other)[1];
        return x * x + y * y;
    }

    private int cutRoot(int point, int other) {
        return (int) Math.floor(Math.sqrt(squared(point, other)) + 1e-9);
    }

    /** The turns of a way in their order, true for sharp ones. */
    private List<Boolean> turns(List<Integer> way) {
        List<Boolean> turns = new ArrayList<>();
        for (int i = 2; i < way.size(); i++) {
            int a = way.get(i - 2);
            int b = way.get(i - 1);
            int c = way.get(i);
            // The angle at b is less than a right one if the side across is shorter than in Pythagoras.
            boolean isSharp = squared(a, c) < squared(a, b) + squared(b, c);
            if (isSharp || !isOnLine(a, b, c)) {
                turns.add(isSharp);
            }
        }
        return turns;
    }

    private boolean isOnLine(int a, int b, int c) {
        int[] p = places.get(a);
        int[] q = places.get(b);
        int[] r = places.get(c);
        return p[0] * (q[1] - r[1]) + q[0] * (r[1] - p[1]) + r[0] * (p[1] - q[1]) == 0;
    }

    int corners(int tube, boolean areSharp) {
        return (int) turns(way(tube)).stream().filter(isSharp -> isSharp || !areSharp).count();
    }

    int make(int tube, int width) {
        argument(width >= 8 && width <= 25);
        List<Integer> way = way(tube);
        free(tubes.size() != 10);
        Glass made = new Glass();
        made.width = width;
        for (int i = 1; i < way.size(); i++) {
            made.size += cutRoot(way.get(i - 1), way.get(i));
        }
        made.turnsLeft = turns(way);
        made.letter = made.turnsLeft.isEmpty() ? 'b' : 's';
        bill += (int) Math.ceil(made.size / 10.0);
        tubes.add(made);
        return tubes.size() - 1;
    }

    private Glass glass(int tube) {
        index(tube, tubes.size());
        return tubes.get(tube);
    }

    int pointCount() {
        return places.size();
    }

    int tubeCount() {
        return tubes.size();
    }

    int circuitCount() {
        return circuits.size();
    }

    int length(int tube) {
        return glass(tube).size;
    }

    char state(int tube) {
        return glass(tube).letter;
    }

    int risk(int risk) {
        argument(risk >= 0 && risk <= 60);
        int before = this.risk;
        this.risk = risk;
        return before;
    }

    int seed(int z) {
        argument(z >= 1 && z <= 2147483646);
        int before = (int) this.z;
        this.z = z;
        return before;
    }

    int bend(int tube) {
        Glass glass = glass(tube);
        supported(glass.letter == 's');
        boolean isSharp = glass.turnsLeft.remove(0);
        bill += glass.width + (isSharp ? 5 : 0);
        z = z * 48271 % 2147483647;
        if (z % 100 < (isSharp ? risk + risk : risk)) {
            glass.letter = 'x';
            return -1;
        }
        if (glass.turnsLeft.isEmpty()) {
            glass.letter = 'b';
        }
        return glass.turnsLeft.size();
    }

    int put(int tube, boolean leaks, int powder) {
        Glass glass = glass(tube);
        argument(powder >= 0 && powder <= 4);
        supported(glass.letter == 'b');
        glass.letter = 'p';
        glass.leak = leaks;
        glass.powder = powder;
        glass.gas = 1000;
        glass.inGlass = 300;
        return 1000;
    }

    private Glass onPlant(Glass glass) {
        supported(glass.letter == 'p');
        return glass;
    }

    int pump(int tube, int minutes) {
        Glass glass = glass(tube);
        argument(minutes >= 1 && minutes <= 60);
        onPlant(glass);
        for (int left = minutes; left > 0; left--) {
            glass.gas = glass.gas - (int) Math.ceil(glass.gas / 10.0) + (glass.leak ? 40 : 0);
        }
        bill += 5;
        return glass.gas;
    }

    int bombard(int tube, int degrees) {
        Glass glass = glass(tube);
        argument(degrees >= 100 && degrees <= 400);
        onPlant(glass);
        supported(!glass.leak);
        int out = (int) Math.floor(glass.inGlass * degrees / 400.0);
        glass.inGlass -= out;
        glass.gas += out;
        glass.burnt |= degrees > 300;
        return glass.gas;
    }

    boolean mend(int tube) {
        Glass glass = onPlant(glass(tube));
        boolean leaked = glass.leak;
        glass.leak = false;
        return leaked;
    }

    int gas(int tube, boolean inGlass) {
        Glass glass = glass(tube);
        there(glass.letter == 'p');
        return inGlass ? glass.inGlass : glass.gas;
    }

    int fill(int tube, char gas, int pressure) {
        Glass glass = glass(tube);
        argument((gas == 'n' || gas == 'a') && pressure >= 5 && pressure <= 20);
        onPlant(glass);
        supported(!glass.leak && glass.gas <= 10 && glass.inGlass <= 60);
        glass.letter = 'f';
        glass.with = gas;
        glass.pressure = pressure;
        bill += 20;
        return colour(tube);
    }

    private Glass filled(int tube) {
        Glass glass = glass(tube);
        there(glass.letter == 'f');
        return glass;
    }

    int colour(int tube) {
        Glass glass = filled(tube);
        return 10 * (glass.with == 'n' ? 1 : 2) + (glass.burnt ? 0 : glass.powder);
    }

    int gives(int tube) {
        Glass glass = filled(tube);
        int light = 100;
        for (int pressure = Math.min(12, glass.pressure); pressure < Math.max(12, glass.pressure); pressure++) {
            light -= 5;
        }
        for (int hours = 500; hours <= glass.hours; hours += 500) {
            light--;
        }
        light = light < 0 ? 0 : light;
        return glass.with == 'a' && air < 5 ? light / 2 : light;
    }

    boolean smash(int tube) {
        Glass glass = glass(tube);
        supported(glass.letter != 'x');
        boolean wasFilled = glass.letter == 'f';
        glass.letter = 'x';
        return wasFilled;
    }

    int circuit(int rating) {
        argument(rating >= 10 && rating <= 2000);
        free(circuits.size() != 4);
        Row row = new Row();
        row.rating = rating;
        circuits.add(row);
        return circuits.size() - 1;
    }

    private Row row(int circuit) {
        index(circuit, circuits.size());
        return circuits.get(circuit);
    }

    int join(int circuit, int tube) {
        Row row = row(circuit);
        Glass glass = glass(tube);
        supported(glass.letter == 'f' && glass.circuit < 0);
        glass.circuit = circuit;
        row.tubes.add(tube);
        return load(circuit);
    }

    int part(int circuit, int tube) {
        Row row = row(circuit);
        Glass glass = glass(tube);
        supported(glass.circuit == circuit);
        glass.circuit = -1;
        row.tubes.remove(Integer.valueOf(tube));
        return load(circuit);
    }

    int load(int circuit) {
        return row(circuit).tubes.stream().mapToInt(tube -> tubes.get(tube).size + 10).sum();
    }

    char circuitIs(int circuit) {
        Row row = row(circuit);
        int load = load(circuit);
        if (row.tubes.isEmpty()) {
            return 'e';
        }
        if (row.tubes.stream().anyMatch(tube -> tubes.get(tube).letter == 'x')) {
            return 'x';
        }
        if (load > row.rating) {
            return 'o';
        }
        return load < row.rating * 0.8 - 1e-9 ? 'u' : '-';
    }

    int cause(int circuit) {
        for (int tube : row(circuit).tubes) {
            if (tubes.get(tube).letter == 'x') {
                return tube;
            }
        }
        throw new NoSuchElementException();
    }

    boolean program(int circuit, int hour, boolean isOn) {
        Row row = row(circuit);
        argument(hour >= 0 && hour <= 23);
        boolean was = row.day[hour];
        row.day[hour] = isOn;
        return was;
    }

    int chase(int circuit, int steps, int on) {
        Row row = row(circuit);
        argument(steps >= 1 && steps <= 8);
        argument(on >= 0 && Integer.toBinaryString(on).length() <= steps);
        int before = row.steps.size();
        row.steps.clear();
        for (int step = 0; step < steps; step++) {
            row.steps.add(on / (int) Math.pow(2, step) % 2 == 1);
        }
        return before;
    }

    boolean shows(int circuit, int second) {
        Row row = row(circuit);
        argument(second >= 0 && second <= 3599);
        return row.day[now % 24] && circuitIs(circuit) == '-' && row.steps.get(second % row.steps.size());
    }

    int air(int degrees) {
        argument(degrees >= -40 && degrees <= 40);
        int before = air;
        air = degrees;
        return before;
    }

    int hours(int many) {
        argument(many >= 1 && many <= 999);
        free(now + many <= 99999);
        for (int left = many; left > 0; left--) {
            for (Glass glass : tubes) {
                if (glass.circuit >= 0 && row(glass.circuit).day[now % 24] && circuitIs(glass.circuit) == '-') {
                    glass.hours++;
                }
            }
            now++;
        }
        return now % 24;
    }

    int lit(int tube) {
        return glass(tube).hours;
    }

    int allow(int light) {
        argument(light >= 0 && light <= 9999);
        int before = allowed;
        allowed = light;
        return before;
    }

    int dark(int from, int until) {
        argument(from >= 0 && from <= 23 && until >= 0 && until <= 23);
        int before = 24 * this.from + this.until;
        this.from = from;
        this.until = until;
        return before;
    }

    int breach() {
        boolean[] isDark = new boolean[24];
        for (int hour = from; hour != until; hour = (hour + 1) % 24) {
            isDark[hour] = true;
        }
        for (int hour = 0; hour < 24; hour++) {
            int light = 0;
            for (int tube = 0; tube < tubes.size(); tube++) {
                int circuit = tubes.get(tube).circuit;
                if (circuit >= 0 && circuitIs(circuit) == '-' && circuits.get(circuit).day[hour]) {
                    light += gives(tube);
                }
            }
            if (light > (isDark[hour] ? 0 : allowed)) {
                return hour;
            }
        }
        throw new NoSuchElementException();
    }

    int hail(int width) {
        argument(width >= 8 && width <= 25);
        int many = 0;
        for (Glass glass : tubes) {
            if (glass.letter == 'f' && glass.width > width) {
                glass.letter = 'x';
                many++;
            }
        }
        return many;
    }

    int bill() {
        return bill;
    }

    long checksum() {
        List<Long> terms = new ArrayList<>();
        for (Glass glass : tubes) {
            terms.addAll(List.of((long) glass.letter, (long) glass.size, (long) glass.hours));
        }
        for (int circuit = 0; circuit < circuits.size(); circuit++) {
            terms.add((long) load(circuit));
        }
        terms.addAll(List.of((long) bill, z));
        return terms.stream().reduce(7L, (sum, term) -> 31 * sum + term);
    }

    float filledShare() {
        there(!tubes.isEmpty());
        return (float) tubes.stream().filter(glass -> glass.letter == 'f').count() / (float) tubes.size();
    }

    double meanLength() {
        there(!strokes.isEmpty());
        return (double) strokes.stream().mapToInt(stroke -> cutRoot(stroke.low, stroke.high)).sum()
                / (double) strokes.size();
    }

    boolean isSound() {
        return true;
    }

    private static void argument(boolean isRight) {
        if (!isRight) {
            throw new IllegalArgumentException();
        }
    }

    private static void supported(boolean isSo) {
        if (!isSo) {
            throw new UnsupportedOperationException();
        }
    }

    private static void free(boolean isFree) {
        if (!isFree) {
            throw new IllegalStateException();
        }
    }

    private static void there(boolean isThere) {
        if (!isThere) {
            throw new NoSuchElementException();
        }
    }

    private static void index(int number, int size) {
        if (number < 0 || number >= size) {
            throw new IndexOutOfBoundsException();
        }
    }
}
