/** "If several exceptions apply, the one that is listed first is thrown.": each two that a method lists. */
final class OrderEdges {
    private static final String ARGUMENT = "IllegalArgumentException";
    private static final String BOUNDS = "IndexOutOfBoundsException";
    private static final String NO_ELEMENT = "NoSuchElementException";
    private static final String STATE = "IllegalStateException";
    private static final String SUPPORT = "UnsupportedOperationException";
    private static final String FIRST = "If several exceptions apply, the one that is listed first is thrown.";
    private static final String NOTHING = "A method that throws an exception changes nothing.";

    /** A tube of 95 without turns, 12 wide, bent. */
    private static final String BENT = Full.LINE + "make(0, 12) = 0;";
    private static final String STRAIGHT = """
            point(0, 0); point(10, 0); point(10, 10); stroke(0, 1); stroke(1, 2); make(0, 12) = 0;
            """;
    private static final String FILLED = Lit.PLAN + Lit.neon(0, 1);

    private final Edges edges;

    OrderEdges(Edges edges) {
        this.edges = edges;
    }

    void run() {
        ofPoints();
        ofStrokes();
        ofMaking();
        ofTubes();
        ofNumbers();
        ofFills();
        ofCircuits();
        ofRows();
        changesNothing();
    }

    private static String is(String exception, String... calls) {
        StringBuilder text = new StringBuilder();
        for (String call : calls) {
            text.append(call).append(" = throws ").append(exception).append(";");
        }
        return text.toString();
    }

    private void ofPoints() {
        edges.order(2, ARGUMENT, STATE, Full.POINTS, is(ARGUMENT, "point(100, 10)", "point(60, -1)", "point(-1, 100)"),
                is(STATE, "point(60, 10)"));
        edges.order(2, SUPPORT, STATE, Full.POINTS, is(SUPPORT, "point(50, 10)", "point(0, 0)"), is(STATE, "point(99, 99)"));
        // No point is at a place outside.
        edges.order(2, ARGUMENT, SUPPORT, "point(99, 99);", is(ARGUMENT, "point(100, 99)"), is(SUPPORT, "point(99, 99)"));
        edges.term(FIRST, Full.POINTS, is(ARGUMENT, "point(100, 10)"), is(SUPPORT, "point(10, 10)"), is(STATE, "point(10, 11)"));
    }

    private void ofStrokes() {
        edges.order(3, BOUNDS, ARGUMENT, "point(0, 0); point(1, 1);", is(BOUNDS, "stroke(2, 2)", "stroke(-1, -1)"),
                is(ARGUMENT, "stroke(1, 1)"));
        edges.order(3, BOUNDS, ARGUMENT, Full.POINTS, is(BOUNDS, "stroke(12, 12)"), is(ARGUMENT, "stroke(11, 11)"));
        edges.order(3, BOUNDS, SUPPORT, "point(0, 0); point(1, 1); stroke(0, 1);", is(BOUNDS, "stroke(0, 2)", "stroke(-1, 1)"),
                is(SUPPORT, "stroke(0, 1)"));
        edges.order(3, BOUNDS, STATE, Full.STROKES, is(BOUNDS, "stroke(0, 12)", "stroke(12, 0)", "stroke(-1, 11)",
                "stroke(12, 12)"), is(STATE, "stroke(10, 11)"));
        edges.order(3, ARGUMENT, SUPPORT, "point(0, 0); point(1, 1); stroke(0, 1);", is(ARGUMENT, "stroke(0, 0)"),
                is(SUPPORT, "stroke(1, 0)"));
        edges.order(3, ARGUMENT, STATE, Full.STROKES, is(ARGUMENT, "stroke(0, 0)", "stroke(11, 11)"),
                is(STATE, "stroke(9, 11)"));
        edges.order(3, SUPPORT, STATE, Full.STROKES, is(SUPPORT, "stroke(0, 11)", "stroke(8, 1)"),
                is(STATE, "stroke(9, 1)"));
        edges.order(4, BOUNDS, SUPPORT, Full.STROKES, is(BOUNDS, "erase(12, 12)", "erase(0, 12)", "erase(-1, -1)"),
                is(SUPPORT, "erase(11, 11)", "erase(10, 11)"));
    }

    private void ofMaking() {
        edges.order(12, ARGUMENT, NO_ELEMENT, is(ARGUMENT, "make(0, 7)", "make(0, 26)"), Full.LINE,
                is(ARGUMENT, "make(1, 7)", "make(-1, 26)"), is(NO_ELEMENT, "make(1, 8)", "make(-1, 25)"));
        edges.order(12, ARGUMENT, STATE, Full.TUBES, is(ARGUMENT, "make(0, 7)", "make(0, 26)"), is(STATE, "make(0, 8)"));
        edges.order(12, NO_ELEMENT, STATE, Full.TUBES, is(NO_ELEMENT, "make(1, 8)", "make(-1, 8)"), is(STATE, "make(0, 8)"),
                "erase(0, 1) = 0;", is(NO_ELEMENT, "make(0, 8)"));
        edges.term(FIRST, Full.TUBES, is(ARGUMENT, "make(1, 26)"), is(NO_ELEMENT, "make(1, 25)"), is(STATE, "make(0, 25)"));
    }

    private void ofTubes() {
        edges.order(17, BOUNDS, SUPPORT, is(BOUNDS, "bend(0)"), BENT, is(BOUNDS, "bend(1)", "bend(-1)"), is(SUPPORT, "bend(0)"));
        edges.order(21, BOUNDS, SUPPORT, is(BOUNDS, "mend(0)"), BENT, is(BOUNDS, "mend(1)", "mend(-1)"), is(SUPPORT, "mend(0)"));
        edges.order(26, BOUNDS, SUPPORT, is(BOUNDS, "smash(0)"), BENT, "smash(0);", is(BOUNDS, "smash(1)", "smash(-1)"),
                is(SUPPORT, "smash(0)"));
        edges.order(22, BOUNDS, NO_ELEMENT, is(BOUNDS, "gas(0, true)"), BENT, is(BOUNDS, "gas(1, true)", "gas(-1, false)"),
                is(NO_ELEMENT, "gas(0, true)", "gas(0, false)"));
        edges.order(24, BOUNDS, NO_ELEMENT, is(BOUNDS, "colour(0)"), BENT, is(BOUNDS, "colour(1)", "colour(-1)"),
                is(NO_ELEMENT, "colour(0)"));
        edges.order(25, BOUNDS, NO_ELEMENT, is(BOUNDS, "gives(0)"), BENT, is(BOUNDS, "gives(1)", "gives(-1)"),
                is(NO_ELEMENT, "gives(0)"));
    }

    private void ofNumbers() {
        String[] bad = {"put(#, false, 5)", "pump(#, 61)", "bombard(#, 401)"};
        String[] good = {"put(#, false, 4)", "pump(#, 60)", "bombard(#, 400)"};
        for (int i = 0; i < bad.length; i++) {
            String outside = bad[i].replace("#", "0");
            String inside = good[i].replace("#", "0");
            String state = i == 0 ? STRAIGHT : BENT;
            edges.order(18 + i, BOUNDS, ARGUMENT, is(BOUNDS, outside), state, is(BOUNDS, bad[i].replace("#", "1"),
                    bad[i].replace("#", "-1")), is(ARGUMENT, outside));
            edges.order(18 + i, BOUNDS, SUPPORT, is(BOUNDS, inside), state, is(BOUNDS, good[i].replace("#", "1"),
                    good[i].replace("#", "-1")), is(SUPPORT, inside));
            edges.order(18 + i, ARGUMENT, SUPPORT, state, is(ARGUMENT, outside), is(SUPPORT, inside), "smash(0);",
                    is(ARGUMENT, outside), is(SUPPORT, inside));
        }
        edges.order(20, ARGUMENT, SUPPORT, BENT, "put(0, true, 0);", is(ARGUMENT, "bombard(0, 99)", "bombard(0, 401)"),
                is(SUPPORT, "bombard(0, 100)", "bombard(0, 400)"));
    }

    private void ofFills() {
        edges.order(23, BOUNDS, ARGUMENT, is(BOUNDS, "fill(0, 'x', 12)", "fill(0, 'n', 4)"), BENT,
                is(BOUNDS, "fill(1, 'x', 12)", "fill(-1, 'n', 21)"), is(ARGUMENT, "fill(0, 'x', 12)", "fill(0, 'n', 21)"));
        edges.order(23, BOUNDS, SUPPORT, is(BOUNDS, "fill(0, 'n', 12)"), BENT, is(BOUNDS, "fill(1, 'n', 12)",
                "fill(-1, 'a', 12)"), is(SUPPORT, "fill(0, 'n', 12)"));
        edges.order(23, ARGUMENT, SUPPORT, STRAIGHT, is(ARGUMENT, "fill(0, 'x', 12)", "fill(0, 'n', 4)"), "bend(0);",
                is(ARGUMENT, "fill(0, 'x', 12)", "fill(0, 'a', 21)"), "put(0, true, 0);",
                is(ARGUMENT, "fill(0, 'x', 12)", "fill(0, 'a', 4)"), is(SUPPORT, "fill(0, 'a', 5)"), "mend(0);",
                is(ARGUMENT, "fill(0, 'N', 12)", "fill(0, 'n', 21)"), is(SUPPORT, "fill(0, 'n', 20)"),
                "bombard(0, 400); pump(0, 60); fill(0, 'n', 12) = 10;",
                is(ARGUMENT, "fill(0, 'x', 12)", "fill(0, 'n', 4)"), is(SUPPORT, "fill(0, 'n', 12)"));
    }

    private void ofCircuits() {
        edges.order(27, ARGUMENT, STATE, Full.CIRCUITS, is(ARGUMENT, "circuit(9)", "circuit(2001)"), is(STATE, "circuit(10)",
                "circuit(2000)"));
        edges.order(32, BOUNDS, NO_ELEMENT, is(BOUNDS, "cause(0)"), "circuit(10);", is(BOUNDS, "cause(1)", "cause(-1)"),
                is(NO_ELEMENT, "cause(0)"));
        edges.order(33, BOUNDS, ARGUMENT, is(BOUNDS, "program(0, 24, true)"), "circuit(10);",
                is(BOUNDS, "program(1, 24, true)", "program(-1, -1, false)"), is(ARGUMENT, "program(0, 24, true)"));
        edges.order(34, BOUNDS, ARGUMENT, is(BOUNDS, "chase(0, 9, 0)"), "circuit(10);",
                is(BOUNDS, "chase(1, 0, 0)", "chase(-1, 9, 0)", "chase(1, 1, 2)"),
                is(ARGUMENT, "chase(0, 0, 0)", "chase(0, 9, 0)", "chase(0, 1, 2)"));
        edges.order(35, BOUNDS, ARGUMENT, is(BOUNDS, "shows(0, 3600)"), "circuit(10);",
                is(BOUNDS, "shows(1, 3600)", "shows(-1, -1)"), is(ARGUMENT, "shows(0, 3600)", "shows(0, -1)"));
        edges.order(37, ARGUMENT, STATE, Full.HOURS_BUT_ONE, is(ARGUMENT, "hours(1000)", "hours(2147483647)", "hours(0)"),
                is(STATE, "hours(2)"), "hours(1) = 15;", is(ARGUMENT, "hours(0)", "hours(1000)", "hours(-1)"), is(STATE, "hours(1)"));
    }

    private void ofRows() {
        edges.order(28, BOUNDS, SUPPORT, is(BOUNDS, "join(0, 0)"), FILLED, "make(0, 8); circuit(30);",
                is(BOUNDS, "join(1, 1)", "join(-1, 1)", "join(0, 2)", "join(1, 2)"), is(SUPPORT, "join(0, 1)"), "join(0, 0) = 30;",
                is(BOUNDS, "join(1, 0)", "join(-1, 0)"), is(SUPPORT, "join(0, 0)"));
        edges.order(29, BOUNDS, SUPPORT, is(BOUNDS, "part(0, 0)"), FILLED, "circuit(30);",
                is(BOUNDS, "part(1, 0)", "part(-1, 0)", "part(0, 1)", "part(0, -1)", "part(1, 1)"), is(SUPPORT, "part(0, 0)"));
    }

    private void changesNothing() {
        // A refused bend makes no draw and costs no minutes, and a refused pumping costs nothing.
        edges.term(NOTHING, BENT, is(SUPPORT, "bend(0)"), is(BOUNDS, "bend(1)"), "seed(1) = 1; bill() = 10;",
                is(SUPPORT, "pump(0, 1)"), is(ARGUMENT, "pump(0, 61)"), is(BOUNDS, "pump(1, 1)"), "bill() = 10; state(0) = b");
        edges.term(NOTHING, FILLED, "circuit(30); circuit(30); join(0, 0); program(0, 0, true);",
                Full.HOURS_BUT_ONE, "lit(0) = 4167;", is(STATE, "hours(999)"),
                "lit(0) = 4167;", is(SUPPORT, "join(1, 0)"), "load(0) = 30; load(1) = 0;", is(SUPPORT, "part(1, 0)"), "load(0) = 30");
        edges.term(NOTHING, Full.STROKES, is(STATE, "stroke(10, 11)"), is(SUPPORT, "stroke(0, 11)"), is(SUPPORT, "erase(10, 11)"),
                is(ARGUMENT, "stroke(10, 10)"), is(STATE, "point(0, 50)"), "odd() = 4; planned() = 2; points(0) = 17; points(1) = 3");
        edges.term(NOTHING, "risk(7); seed(9); air(3); allow(4); dark(5, 6);", is(ARGUMENT, "risk(61)", "seed(0)", "air(41)",
                "allow(-1)", "dark(7, 24)", "dark(24, 7)"), "risk(0) = 7; seed(1) = 9; air(0) = 3; allow(0) = 4; dark(0, 0) = 126");
    }
}
