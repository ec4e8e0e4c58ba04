import java.util.ArrayList;
import java.util.List;

/**
 * "A method that throws an exception changes nothing": in a few states of a sign each method is called
 * with numbers at, beside and far from its edges. Each call answers or throws as that of SlowSign does,
 * and behind each refused one the sign answers every question as one that was spared the call.
 */
public final class RefusedTest {
    private static final String FULL = Full.STROKES + """
            make(0, 8) = 0; make(1, 9) = 1; make(1, 10) = 2; make(1, 11) = 3; make(1, 12) = 4; make(1, 13) = 5;
            make(1, 14) = 6; make(1, 15) = 7; make(1, 16) = 8; make(1, 17) = 9; bend(0) = 13;
            bend(2) = 0; bend(3) = 0; bend(4) = 0; bend(5) = 0; bend(6) = 0; bend(7) = 0; bend(8) = 0;
            put(3, true, 1); put(4, false, 2); put(5, false, 3); put(6, false, 4); put(7, false, 1); put(8, false, 2);
            pump(3, 60) = 400; pump(4, 1) = 900; bombard(5, 280); bombard(5, 280); pump(5, 60) = 0; bombard(6, 300);
            bombard(6, 300); pump(6, 60) = 0; bombard(7, 400); pump(7, 60) = 0; bombard(8, 290); bombard(8, 290);
            pump(8, 60) = 0; fill(6, 'n', 6) = 14; fill(7, 'a', 20) = 20; fill(8, 'a', 13) = 22; smash(9);
            circuit(101) = 0; circuit(200) = 1; circuit(11) = 2; circuit(2000) = 3; join(0, 6) = 101; join(1, 7) = 101;
            smash(7); program(0, 5, true); program(0, 6, true); program(1, 5, true); program(2, 23, true);
            chase(0, 8, 129); risk(37); seed(987654321); air(4); allow(60); dark(22, 6); hours(30) = 6;
            """;
    private static final String AT_THE_LAST_HOUR = Full.LINE
            + "make(0, 25) = 0; put(0, false, 4) = 1000; circuit(105) = 0; program(0, 15, true);" + Full.HOURS_BUT_ONE
            + "hours(1) = 15;";
    /** One tube, on the plant and ready to be filled, and one circuit. */
    private static final String READY = Full.LINE + """
            make(0, 9) = 0; put(0, false, 3) = 1000; bombard(0, 300); bombard(0, 300); pump(0, 60) = 0; circuit(105) = 0;
            """;

    private static final String[] POINTS = {"-2147483648", "-1", "0", "1", "9", "11", "12", "32", "2147483647"};
    private static final String[] PLACES = {"-2147483648", "-1", "0", "10", "50", "99", "100", "2147483647"};
    private static final String[] PLANNED = {"-2147483648", "-1", "0", "1", "2", "18", "2147483647"};
    private static final String[] INDEXES = {"-2147483648", "-1", "0", "2", "3", "16", "17", "36", "2147483647"};
    private static final String[] TUBES = {"-2147483648", "-1", "0", "1", "2", "3", "4", "5", "6", "7", "8", "9", "10",
            "2147483647"};
    private static final String[] CIRCUITS = {"-2147483648", "-1", "0", "1", "2", "3", "4", "2147483647"};
    private static final String[] TRUTHS = {"false", "true"};

    private final Runs runs = new Runs();
    private int refused;

    public static void main(String[] args) {
        RefusedTest test = new RefusedTest();
        test.inState("a new sign", "");
        test.inState("a full sign", FULL);
        test.inState("a sign at its last hour", AT_THE_LAST_HOUR);
        test.inState("a sign with a tube that may be filled", READY);
        test.runs.due("many calls are refused", String.valueOf(test.refused > 4000), "true");
        test.runs.end();
    }

    private void inState(String state, String text) {
        List<String> spared = answersOf(built(state, text));
        for (String call : calls()) {
            Noblesign sign = built(state, text);
            String answer = Runs.answer(sign, call);
            runs.due(state + ": " + call, answer, Runs.answer(slowly(text), call));
            if (answer.contains("throws ")) {
                refused++;
                compare(state + ", behind " + call + ": ", answersOf(sign), spared);
            }
        }
    }

    private Noblesign built(String state, String text) {
        Noblesign sign = new Noblesign();
        for (String step : Runs.steps(text)) {
            int equal = step.indexOf(" = ");
            String answer = Runs.answer(sign, equal < 0 ? step : step.substring(0, equal));
            runs.due(state + ": " + step, answer, equal < 0 ? answer : step.substring(equal + 3));
        }
        return sign;
    }

    private static SlowSign slowly(String text) {
        SlowSign sign = new SlowSign();
        for (String step : Runs.steps(text)) {
            int equal = step.indexOf(" = ");
            Runs.answer(sign, equal < 0 ? step : step.substring(0, equal));
        }
        return sign;
    }

    private static List<String> answersOf(Noblesign sign) {
        List<String> answers = new ArrayList<>();
        for (String call : Questions.ALL) {
            answers.add(call + " = " + Runs.answer(sign, call));
        }
        return answers;
    }

    private void compare(String name, List<String> got, List<String> want) {
        for (int i = 0; i < want.size(); i++) {
            runs.due(name, got.get(i), want.get(i));
        }
    }

    private static List<String> calls() {
        List<String> calls = new ArrayList<>();
        add(calls, "point", PLACES, PLACES);
        add(calls, "stroke", POINTS, POINTS);
        add(calls, "erase", POINTS, POINTS);
        add(calls, "points", PLANNED);
        add(calls, "through", PLANNED, INDEXES);
        add(calls, "corners", PLANNED, TRUTHS);
        add(calls, "make", PLANNED, numbers("7 8 25 26"));
        for (String name : List.of("length", "state", "bend", "mend", "colour", "gives", "smash", "lit")) {
            add(calls, name, TUBES);
        }
        add(calls, "risk", numbers("-1 0 60 61"));
        add(calls, "seed", numbers("-1 0 1 2147483646"));
        add(calls, "put", TUBES, TRUTHS, numbers("-1 0 4 5"));
        add(calls, "pump", TUBES, numbers("0 1 60 61"));
        add(calls, "bombard", TUBES, numbers("99 100 400 401"));
        add(calls, "gas", TUBES, TRUTHS);
        add(calls, "fill", TUBES, new String[] {"'n'", "'a'", "'x'"}, numbers("4 5 20 21"));
        add(calls, "circuit", numbers("9 10 2000 2001"));
        add(calls, "join", CIRCUITS, TUBES);
        add(calls, "part", CIRCUITS, TUBES);
        for (String name : List.of("load", "circuitIs", "cause")) {
            add(calls, name, CIRCUITS);
        }
        add(calls, "program", CIRCUITS, numbers("-1 0 5 23 24"), TRUTHS);
        add(calls, "chase", CIRCUITS, numbers("0 1 3 8 9"), numbers("-1 0 1 2 7 8 255 256"));
        add(calls, "shows", CIRCUITS, numbers("-1 0 3599 3600"));
        add(calls, "air", numbers("-41 -40 40 41"));
        add(calls, "hours", numbers("-1 0 1 2 999 1000"));
        add(calls, "allow", numbers("-1 0 9999 10000"));
        add(calls, "dark", numbers("-1 0 23 24"), numbers("-1 0 23 24"));
        add(calls, "hail", numbers("7 8 25 26"));
        for (String name : List.of("parts", "odd", "fewest", "planned", "breach", "bill", "checksum", "filledShare",
                "meanLength", "isSound")) {
            calls.add(name + "()");
        }
        return calls;
    }

    /** These numbers, with the least and the most that there are. */
    private static String[] numbers(String between) {
        return ("-2147483648 " + between + " 2147483647").split(" ");
    }

    /** The calls of a method with each of the first words, with each of the second ones, and so on. */
    private static void add(List<String> calls, String name, String[]... words) {
        List<String> begun = new ArrayList<>(List.of(name + "("));
        for (String[] next : words) {
            List<String> longer = new ArrayList<>();
            for (String call : begun) {
                for (String word : next) {
                    longer.add(call + (call.endsWith("(") ? "" : ", ") + word);
                }
            }
            begun = longer;
        }
        for (String call : begun) {
            calls.add(call + ")");
        }
    }
}
