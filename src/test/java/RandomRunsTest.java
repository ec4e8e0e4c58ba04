import java.util.List;

/** Runs of calls that follow from a number, on Noblesign and on SlowSign, which must answer the same. */
public final class RandomRunsTest {
    private static final int RUNS = 3000;

    private static final int[] EXTREMES = {Integer.MIN_VALUE, Integer.MAX_VALUE, -1, 32, 64, 100000, -100};

    private final Runs runs = new Runs();
    private long state;

    public static void main(String[] args) {
        RandomRunsTest test = new RandomRunsTest();
        for (int run = 1; run <= RUNS; run++) {
            test.run(run);
        }
        test.runs.end();
    }

    private void run(int run) {
        state = run * 1000003L;
        Noblesign sign = new Noblesign();
        SlowSign slow = new SlowSign();
        // A sign is asked at most 512 times, so the long runs have no questions behind them.
        boolean isLong = run % 2 == 0;
        int calls = isLong ? Runs.MOST_CALLS : Runs.MOST_CALLS - Questions.ALL.size();
        for (int i = 0; i < calls; i++) {
            String call = below(100) < 70 ? useful(slow, i) : any();
            compare(run, sign, slow, call);
        }
        for (int i = 0; i < Questions.ALL.size() && !isLong; i++) {
            compare(run, sign, slow, Questions.ALL.get(i));
        }
    }

    private void compare(int run, Noblesign sign, SlowSign slow, String call) {
        runs.due("random run " + run + ": " + call, Runs.answer(sign, call), Runs.answer(slow, call));
    }

    private int below(int bound) {
        state = state * 6364136223846793005L + 1442695040888963407L;
        return (int) ((state >>> 33) % bound);
    }

    private int from(int least, int most) {
        return least + below(most - least + 1);
    }

    /** A number near a range: mostly in it, often at its ends, sometimes beside it or far away. */
    private int near(int least, int most) {
        int kind = below(40);
        if (kind == 0) {
            return EXTREMES[below(EXTREMES.length)];
        }
        if (kind < 4) {
            return below(2) == 0 ? least - 1 : most + 1;
        }
        if (kind < 8) {
            return below(2) == 0 ? least : most;
        }
        return from(least, most);
    }

    private String pick(List<String> words) {
        return words.get(below(words.size()));
    }

    /** A call that brings the sign further, with arguments that mostly are allowed. */
    private String useful(SlowSign slow, int i) {
        int kind = i < 30 ? below(4) : below(20);
        if (kind < 4) {
            return drawn(slow, kind, i);
        }
        if (kind < 6 && slow.planned() > 0) {
            return "make(" + below(slow.planned()) + ", " + from(8, 25) + ")";
        }
        if (kind < 14 && slow.tubeCount() > 0) {
            return furthered(slow, below(slow.tubeCount()));
        }
        if (kind < 15) {
            return "hours(" + from(1, 999) + ")";
        }
        int circuit = below(1 + Math.min(3, slow.circuitCount()));
        if (kind < 17) {
            return "shows(" + circuit + ", " + from(0, 3599) + ")";
        }
        return kind < 18 ? "breach()" : "program(" + circuit + ", " + below(24) + ", " + (below(4) > 0) + ")";
    }

    private String drawn(SlowSign slow, int kind, int i) {
        int points = slow.pointCount();
        if (points < 2 || points < 12 && below(points) == 0) {
            return "point(" + from(0, 12) * 8 + ", " + from(0, 12) * 8 + ")";
        }
        if (kind == 0 && i > 30) {
            return "erase(" + below(points) + ", " + below(points) + ")";
        }
        return "stroke(" + below(points) + ", " + below(points) + ")";
    }

    /** The call that a tube waits for. */
    private String furthered(SlowSign slow, int tube) {
        switch (slow.state(tube)) {
            case 's':
                return "bend(" + tube + ")";
            case 'b':
                return "put(" + tube + ", " + (below(8) == 0) + ", " + from(0, 4) + ")";
            case 'p':
                return furtheredOnPlant(slow, tube);
            case 'f':
                return circuitOrJoin(slow, tube);
            default:
                return "part(" + below(4) + ", " + tube + ")";
        }
    }

    private String furtheredOnPlant(SlowSign slow, int tube) {
        if (below(6) == 0) {
            return "mend(" + tube + ")";
        }
        if (slow.gas(tube, true) > 60 || below(8) == 0) {
            return "bombard(" + tube + ", " + from(220, 330) + ")";
        }
        if (slow.gas(tube, false) > 10) {
            return "pump(" + tube + ", " + from(20, 60) + ")";
        }
        return "fill(" + tube + ", '" + pick(List.of("n", "a")) + "', " + from(5, 20) + ")";
    }

    /** The rating is often one with which the tube alone can be lit. */
    private String circuitOrJoin(SlowSign slow, int tube) {
        int circuits = slow.circuitCount();
        int load = slow.length(tube) + 10;
        if (circuits == 0 || circuits < 4 && below(6) == 0) {
            return "circuit(" + Math.max(10, from(load - 2, load * 5 / 4 + 2) * (below(4) == 0 ? 2 : 1)) + ")";
        }
        switch (below(5)) {
            case 0:
                return "gives(" + tube + ")";
            case 1:
                return "part(" + below(circuits) + ", " + tube + ")";
            default:
                return "join(" + below(circuits) + ", " + tube + ")";
        }
    }

    private String any() {
        switch (below(5)) {
            case 0:
                return ofStrokes();
            case 1:
                return ofTubes();
            case 2:
                return ofCircuits();
            case 3:
                return ofStreet();
            default:
                return pick(List.of("parts()", "odd()", "fewest()", "planned()", "bill()", "checksum()",
                        "filledShare()", "meanLength()", "isSound()", "breach()"));
        }
    }

    private String ofStrokes() {
        switch (below(6)) {
            case 0:
                return "point(" + near(0, 99) + ", " + near(0, 99) + ")";
            case 1:
                return "stroke(" + near(0, 11) + ", " + near(0, 11) + ")";
            case 2:
                return "erase(" + near(0, 11) + ", " + near(0, 11) + ")";
            case 3:
                return "points(" + near(0, 4) + ")";
            case 4:
                return "through(" + near(0, 3) + ", " + near(0, 9) + ")";
            default:
                return "corners(" + near(0, 4) + ", " + (below(2) == 0) + ")";
        }
    }

    private String ofTubes() {
        int tube = near(0, 9);
        switch (below(14)) {
            case 0:
                return "make(" + near(0, 4) + ", " + near(8, 25) + ")";
            case 1:
                return "risk(" + (below(3) == 0 ? near(0, 60) : from(0, 8)) + ")";
            case 2:
                return "seed(" + (below(8) == 0 ? near(1, 9) : from(1, 2147483646)) + ")";
            case 3:
                return "bend(" + tube + ")";
            case 4:
                return "put(" + tube + ", " + (below(2) == 0) + ", " + near(0, 4) + ")";
            case 5:
                return "pump(" + tube + ", " + near(1, 60) + ")";
            case 6:
                return "bombard(" + tube + ", " + near(100, 400) + ")";
            case 7:
                return "mend(" + tube + ")";
            case 8:
                return "gas(" + tube + ", " + (below(2) == 0) + ")";
            case 9:
                return "fill(" + tube + ", '" + pick(List.of("n", "a", "n", "a", "x", "N", "b")) + "', "
                        + near(5, 20) + ")";
            case 10:
                return below(6) == 0 ? "smash(" + tube + ")" : "gives(" + tube + ")";
            default:
                return pick(List.of("length", "state", "colour", "gives", "lit")) + "(" + tube + ")";
        }
    }

    private String ofCircuits() {
        int circuit = near(0, 3);
        switch (below(8)) {
            case 0:
                return "circuit(" + near(10, 2000) + ")";
            case 1:
                return "join(" + circuit + ", " + near(0, 9) + ")";
            case 2:
                return "part(" + circuit + ", " + near(0, 9) + ")";
            case 3:
                return "program(" + circuit + ", " + near(0, 23) + ", " + (below(2) == 0) + ")";
            case 4:
                int steps = near(1, 8);
                return "chase(" + circuit + ", " + steps + ", " + near(0, (1 << Math.floorMod(steps, 9)) - 1) + ")";
            case 5:
                return "shows(" + circuit + ", " + near(0, 3599) + ")";
            default:
                return pick(List.of("load", "circuitIs", "cause")) + "(" + circuit + ")";
        }
    }

    private String ofStreet() {
        switch (below(8)) {
            case 0:
                return "air(" + near(-40, 40) + ")";
            case 1:
                return "air(" + near(3, 6) + ")";
            case 2:
                return "hours(" + near(1, 999) + ")";
            case 3:
                return "allow(" + near(0, 9999) + ")";
            case 4:
                return "allow(" + near(0, 300) + ")";
            case 5:
                return "dark(" + near(0, 23) + ", " + near(0, 23) + ")";
            case 6:
                return below(4) == 0 ? "hail(" + near(8, 25) + ")" : "breach()";
            default:
                return "breach()";
        }
    }
}
