import java.util.List;

/** Runs of calls that follow from a number, on Noblesign and on SlowSign, which must answer the same. */
public final class RandomRunsTest {
    private static final int RUNS = 2000;
    // With the questions behind them a sign is asked at most 512 times.
    private static final int CALLS = 512 - Questions.ALL.size();

    private static final int[] EXTREMES = {Integer.MIN_VALUE, Integer.MAX_VALUE, -1, 32, 64, 100000, -100};

    private final Runs runs = new Runs();
    private long state;

    public static void main(String[] args) {
        RandomRunsTest test = new RandomRunsTest();
        for (int run = 1; run <= RUNS; run++) {
            test.run(run);
        }
        test.runs.end();
    }

    private void run(int run) {
        state = run * 1000003L;
        Noblesign sign = new Noblesign();
        SlowSign slow = new SlowSign();
        for (int i = 0; i < CALLS; i++) {
            String call = below(100) < 70 ? useful(i) : any();
            compare(run, sign, slow, call);
        }
        for (String call : Questions.ALL) {
            compare(run, sign, slow, call);
        }
    }

    private void compare(int run, Noblesign sign, SlowSign slow, String call) {
        runs.due("random run " + run + ": " + call, Runs.answer(sign, call), Runs.answer(slow, call));
    }

    private int below(int bound) {
        state = state * 6364136223846793005L + 1442695040888963407L;
        return (int) ((state >>> 33) % bound);
    }

    private int from(int least, int most) {
        return least + below(most - least + 1);
    }

    /** A number near a range: mostly in it, often at its ends, sometimes beside it or far away. */
    private int near(int least, int most) {
        int kind = below(40);
        if (kind == 0) {
            return EXTREMES[below(EXTREMES.length)];
        }
        if (kind < 4) {
            return below(2) == 0 ? least - 1 : most + 1;
        }
        if (kind < 8) {
            return below(2) == 0 ? least : most;
        }
        return from(least, most);
    }

    private String pick(List<String> words) {
        return words.get(below(words.size()));
    }

    /** A call that brings the sign further, with arguments that mostly are allowed. */
    private String useful(int i) {
        int tube = below(1 + Math.min(9, i / 20));
        int circuit = below(3);
        switch (i < 40 ? below(6) : below(26)) {
            case 0:
                return "point(" + from(0, 12) * 8 + ", " + from(0, 12) * 8 + ")";
            case 1:
                return "point(" + from(0, 99) + ", " + from(0, 99) + ")";
            case 2, 3, 4:
                return "stroke(" + below(12) + ", " + below(12) + ")";
            case 5:
                return below(3) == 0 ? "erase(" + below(12) + ", " + below(12) + ")" : "planned()";
            case 6, 7:
                return "make(" + below(4) + ", " + from(8, 25) + ")";
            case 8, 9, 10:
                return "bend(" + tube + ")";
            case 11, 12:
                return "put(" + tube + ", " + (below(5) == 0) + ", " + from(0, 4) + ")";
            case 13, 14:
                return "bombard(" + tube + ", " + from(200, 400) + ")";
            case 15, 16:
                return "pump(" + tube + ", " + from(30, 60) + ")";
            case 17, 18:
                return "fill(" + tube + ", '" + pick(List.of("n", "a")) + "', " + from(5, 20) + ")";
            case 19:
                return below(3) == 0 ? "mend(" + tube + ")" : "circuit(" + from(40, 700) + ")";
            case 20, 21, 22:
                return "join(" + circuit + ", " + tube + ")";
            case 23, 24:
                return "program(" + circuit + ", " + below(24) + ", " + (below(4) > 0) + ")";
            default:
                return "hours(" + from(1, 999) + ")";
        }
    }

    private String any() {
        switch (below(5)) {
            case 0:
                return ofStrokes();
            case 1:
                return ofTubes();
            case 2:
                return ofCircuits();
            case 3:
                return ofStreet();
            default:
                return pick(List.of("parts()", "odd()", "fewest()", "planned()", "bill()", "checksum()",
                        "filledShare()", "meanLength()", "isSound()", "breach()"));
        }
    }

    private String ofStrokes() {
        switch (below(6)) {
            case 0:
                return "point(" + near(0, 99) + ", " + near(0, 99) + ")";
            case 1:
                return "stroke(" + near(0, 11) + ", " + near(0, 11) + ")";
            case 2:
                return "erase(" + near(0, 11) + ", " + near(0, 11) + ")";
            case 3:
                return "points(" + near(0, 4) + ")";
            case 4:
                return "through(" + near(0, 3) + ", " + near(0, 9) + ")";
            default:
                return "corners(" + near(0, 4) + ", " + (below(2) == 0) + ")";
        }
    }

    private String ofTubes() {
        int tube = near(0, 9);
        switch (below(14)) {
            case 0:
                return "make(" + near(0, 4) + ", " + near(8, 25) + ")";
            case 1:
                return "risk(" + near(0, 60) + ")";
            case 2:
                return "seed(" + (below(8) == 0 ? near(1, 9) : from(1, 2147483646)) + ")";
            case 3:
                return "bend(" + tube + ")";
            case 4:
                return "put(" + tube + ", " + (below(2) == 0) + ", " + near(0, 4) + ")";
            case 5:
                return "pump(" + tube + ", " + near(1, 60) + ")";
            case 6:
                return "bombard(" + tube + ", " + near(100, 400) + ")";
            case 7:
                return "mend(" + tube + ")";
            case 8:
                return "gas(" + tube + ", " + (below(2) == 0) + ")";
            case 9:
                return "fill(" + tube + ", '" + pick(List.of("n", "a", "n", "a", "x", "N", "b")) + "', "
                        + near(5, 20) + ")";
            case 10:
                return below(6) == 0 ? "smash(" + tube + ")" : "gives(" + tube + ")";
            default:
                return pick(List.of("length", "state", "colour", "gives", "lit")) + "(" + tube + ")";
        }
    }

    private String ofCircuits() {
        int circuit = near(0, 3);
        switch (below(8)) {
            case 0:
                return "circuit(" + near(10, 2000) + ")";
            case 1:
                return "join(" + circuit + ", " + near(0, 9) + ")";
            case 2:
                return "part(" + circuit + ", " + near(0, 9) + ")";
            case 3:
                return "program(" + circuit + ", " + near(0, 23) + ", " + (below(2) == 0) + ")";
            case 4:
                int steps = near(1, 8);
                return "chase(" + circuit + ", " + steps + ", " + near(0, (1 << Math.floorMod(steps, 9)) - 1) + ")";
            case 5:
                return "shows(" + circuit + ", " + near(0, 3599) + ")";
            default:
                return pick(List.of("load", "circuitIs", "cause")) + "(" + circuit + ")";
        }
    }

    private String ofStreet() {
        switch (below(8)) {
            case 0:
                return "air(" + near(-40, 40) + ")";
            case 1:
                return "air(" + near(3, 6) + ")";
            case 2:
                return "hours(" + near(1, 999) + ")";
            case 3:
                return "allow(" + near(0, 9999) + ")";
            case 4:
                return "allow(" + near(0, 300) + ")";
            case 5:
                return "dark(" + near(0, 23) + ", " + near(0, 23) + ")";
            case 6:
                return below(4) == 0 ? "hail(" + near(8, 25) + ")" : "breach()";
            default:
                return "breach()";
        }
    }
}
