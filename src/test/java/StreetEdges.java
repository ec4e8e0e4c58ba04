/** The edges of what the document says of the street, of bills and sums; promises 39 to 45 and 47. */
final class StreetEdges {
    /** A filled tube that gives 100, in a circuit that can be lit, which is off. */
    private static final String ONE = Lit.PLAN + Lit.neon(0, 1) + "circuit(30) = 0; join(0, 0) = 30;";
    /** One of argon besides, in a circuit of its own, that gives 100 or, in the cold, 50. */
    private static final String TWO = ONE + Lit.filled(1, 2, 10, 'a', 12) + "circuit(19) = 1; join(1, 1) = 19;";
    private static final String NO_BREACH = "breach() = throws NoSuchElementException;";
    private static final String OUTSIDE = " = throws IllegalArgumentException;";
    private static final String DARK = "and no light above 0 from one hour on up to another one, that not included, over "
            + "midnight, too; none at first, both 0.";

    private final Edges edges;

    StreetEdges(Edges edges) {
        this.edges = edges;
    }

    void run() {
        allowed();
        inEachHour();
        ofAllThatAreOn();
        fullOfLight();
        darkHours();
        darkOverMidnight();
        hail();
        bills();
        refusedNumbers();
        noBreach();
        checksums();
        shares();
        sound();
    }

    private void allowed() {
        String words = "It allows at most so much light, 0 to 9999, 9999 at first,";
        edges.term(words, "allow(9999) = 9999; allow(0) = 9999; allow(-1)" + OUTSIDE + "allow(10000)" + OUTSIDE
                + "allow(9998) = 0; allow(1) = 9998; allow(9999) = 1");
        edges.term(words, ONE, "program(0, 7, true);", NO_BREACH, "allow(101);", NO_BREACH, "allow(100);", NO_BREACH,
                "allow(99) = 100; breach() = 7; allow(0); breach() = 7; allow(100) = 0;", NO_BREACH);
        // What gives no light is no breach, be none allowed and all hours but one dark.
        edges.term(words, Lit.PLAN, Lit.filled(0, 1, 10, 'n', 20), "circuit(30); join(0, 0);", Lit.programAll(0, true),
                "allow(0); breach() = 0;", "hours(999);".repeat(30), "hours(29); lit(0) = 29999; breach() = 0; hours(1);",
                "gives(0) = 0;", NO_BREACH, "dark(1, 0);", NO_BREACH);
    }

    private void inEachHour() {
        String words = "by all that circuits give that can be lit and are on, in each hour,";
        for (int hour = 0; hour < 24; hour++) {
            edges.term(words, ONE, "allow(99); program(0, " + hour + ", true); breach() = " + hour + ";",
                    "hours(" + (hour + 1) + "); breach() = " + hour + "; program(0, " + hour + ", false) = true;", NO_BREACH);
        }
        edges.term(words, ONE, "allow(99);", NO_BREACH, "program(0, 23, true); breach() = 23; program(0, 22, true);",
                "breach() = 22; program(0, 0, true); breach() = 0; hours(23) = 23; breach() = 0; program(0, 0, false);",
                "breach() = 22; program(0, 22, false); breach() = 23; program(0, 23, false);", NO_BREACH);
    }

    private void ofAllThatAreOn() {
        String words = "by all that circuits give that can be lit and are on, in each hour,";
        edges.term(words, TWO, "program(0, 3, true); program(1, 3, true); program(0, 2, true); program(1, 4, true);",
                "allow(200);", NO_BREACH, "allow(199); breach() = 3; allow(100); breach() = 3; allow(99); breach() = 2;",
                "air(4); allow(149); breach() = 3; allow(150);", NO_BREACH, "allow(149); air(5); breach() = 3; smash(1);",
                NO_BREACH, "allow(99); breach() = 2; smash(0);", NO_BREACH);
        edges.term(words, TWO, "program(0, 3, true); allow(0); breach() = 3; part(0, 0) = 0;", NO_BREACH,
                "join(1, 0) = 49; circuitIs(1) = o; program(1, 2, true);", NO_BREACH,
                "part(1, 1) = 30; part(1, 0) = 0; join(0, 1) = 19; circuitIs(0) = u;", NO_BREACH,
                "part(0, 1); join(0, 0); breach() = 3; chase(0, 2, 0); breach() = 3");
    }

    private void fullOfLight() {
        StringBuilder ten = new StringBuilder(Lit.PLAN).append("circuit(110);");
        for (int tube = 0; tube < 10; tube++) {
            ten.append(Lit.neon(tube, 3)).append("join(0, ").append(tube).append(");");
        }
        edges.term("It allows at most so much light,", ten.toString(), "program(0, 5, true);", NO_BREACH,
                "allow(1000);", NO_BREACH, "allow(999); breach() = 5");
    }

    private void darkHours() {
        String on = TWO + Lit.programAll(0, true);
        edges.term(DARK, on, "dark(0, 0) = 0;", NO_BREACH, "dark(5, 5) = 0;", NO_BREACH, "dark(23, 23) = 125;", NO_BREACH,
                "dark(5, 6) = 575; breach() = 5; dark(6, 5) = 126; breach() = 0; dark(0, 1) = 149; breach() = 0;",
                "dark(1, 2) = 1; breach() = 1; dark(22, 23) = 26; breach() = 22; dark(0, 23) = 551; breach() = 0");
        // From 5 on until 8: 5 and 7 are in it, 4 and 8 are not.
        darkAt(5, 8, 4, false);
        darkAt(5, 8, 5, true);
        darkAt(5, 8, 7, true);
        darkAt(5, 8, 8, false);
        darkAt(0, 23, 0, true);
        darkAt(0, 23, 22, true);
        darkAt(0, 23, 23, false);
        darkAt(1, 0, 0, false);
        darkAt(1, 0, 1, true);
        darkAt(1, 0, 23, true);
        darkAt(0, 1, 0, true);
        darkAt(0, 1, 1, false);
        darkAt(0, 1, 23, false);
        // A light of 1 is above 0.
        edges.term(DARK, Lit.PLAN, Lit.filled(0, 1, 10, 'n', 20), "circuit(30); join(0, 0);", Lit.programAll(0, true),
                "hours(999);".repeat(29), "hours(529); gives(0) = 1;", NO_BREACH, "dark(5, 6); breach() = 5; hours(500);",
                "gives(0) = 0;", NO_BREACH);
        // Those that are dark are dark without a light, and the others have what is allowed.
        edges.term(DARK, on, "dark(9, 10); breach() = 9; program(0, 9, false);", NO_BREACH, "allow(99); breach() = 0;",
                "allow(100);", NO_BREACH, "program(1, 9, true); breach() = 9; dark(10, 9) = 226; breach() = 0");
    }

    private void darkOverMidnight() {
        darkAt(22, 3, 21, false);
        darkAt(22, 3, 22, true);
        darkAt(22, 3, 23, true);
        darkAt(22, 3, 0, true);
        darkAt(22, 3, 2, true);
        darkAt(22, 3, 3, false);
        darkAt(23, 0, 22, false);
        darkAt(23, 0, 23, true);
        darkAt(23, 0, 0, false);
        darkAt(23, 1, 23, true);
        darkAt(23, 1, 0, true);
        darkAt(23, 1, 1, false);
        darkAt(13, 12, 12, false);
        darkAt(13, 12, 11, true);
        darkAt(13, 12, 13, true);
    }

    private void darkAt(int from, int until, int hour, boolean isDark) {
        edges.term(DARK, ONE, "program(0, " + hour + ", true);", NO_BREACH, "dark(" + from + ", " + until + ") = 0;",
                isDark ? "breach() = " + hour + ";" : NO_BREACH, "dark(0, 0) = " + (24 * from + until) + ";", NO_BREACH);
    }

    private void hail() {
        String words = "Hail breaks each filled tube that is wider than told.";
        edges.term(words, "hail(8) = 0; hail(25) = 0", Lit.PLAN, Lit.filled(0, 1, 8, 'n', 12),
                Lit.filled(1, 1, 9, 'n', 12), Lit.filled(2, 1, 24, 'a', 12), Lit.filled(3, 1, 25, 'a', 12), """
                hail(25) = 0; hail(24) = 1; state(3) = x; state(2) = f; hail(24) = 0; hail(23) = 1; state(2) = x;
                hail(9) = 0; hail(8) = 1; state(1) = x; hail(8) = 0; state(0) = f; bill() = 108
                """);
        edges.term(words, Lit.PLAN, Lit.filled(0, 1, 25, 'n', 12), "point(8, 40); point(8, 50); point(18, 50);",
                "stroke(8, 9); stroke(9, 10); make(4, 25) = 1; make(0, 25) = 2; make(0, 25) = 3; put(3, true, 0);",
                "hail(24) = 1; hail(8) = 0; state(0) = x; state(1) = s; state(2) = b; state(3) = p");
        StringBuilder ten = new StringBuilder(Lit.PLAN);
        for (int tube = 0; tube < 10; tube++) {
            ten.append(Lit.filled(tube, 3, 16 + tube, 'n', 12));
        }
        edges.term(words, ten.toString(), "hail(25) = 0; hail(20) = 5; hail(8) = 5; filledShare() = 0.0");
        edges.term(words, ten.toString(), "circuit(11); join(0, 9); hail(8) = 10; circuitIs(0) = x; cause(0) = 9");
        edges.says(42, "- `width`: 8 to 25", "hail(7)" + OUTSIDE + "hail(26)" + OUTSIDE + "hail(8) = 0; hail(25) = 0");
    }

    private void bills() {
        String glass = "Glass costs 1 for each 10 of a tube's length, begun ones counted whole,";
        int[][] costs = {{1, 1}, {9, 1}, {10, 1}, {11, 2}, {19, 2}, {20, 2}, {21, 3}, {90, 9}, {91, 10}, {99, 10}};
        for (int[] cost : costs) {
            edges.term(glass, "point(0, 0); point(" + cost[0] + ", 0); stroke(0, 1); bill() = 0;",
                    "make(0, 25) = 0; bill() = " + cost[1]);
        }
        // Of the tube's length, not of each stroke's: 1 and 1 are 1, not 2.
        edges.term(glass, "point(0, 0); point(1, 0); point(2, 0); stroke(0, 1); stroke(1, 2); make(0, 8); bill() = 1");
        String bent = "point(0, 0); point(10, 0); point(10, 10); stroke(0, 1); stroke(1, 2); make(0, 8); bill() = 2;";
        edges.term("a minute of bending 1,", bent, "bend(0); bill() = 10");
        edges.term("a pumping 5,", bent, "bend(0); put(0, true, 0); bill() = 10; pump(0, 1) = 940; bill() = 15;",
                "pump(0, 60); bill() = 20; mend(0); bombard(0, 400); bill() = 20");
        edges.term("a fill 20;", bent, "bend(0); put(0, false, 0); bombard(0, 400); pump(0, 60); bill() = 15;",
                "fill(0, 'a', 5); bill() = 35; fill(0, 'a', 5) = throws UnsupportedOperationException; bill() = 35");
        edges.term("what breaks is not paid back.", bent, "risk(60); seed(420145337); bend(0) = -1; bill() = 10;",
                "make(0, 8); bill() = 12; smash(1); bill() = 12;", Lit.neon(2, 0).replace("put", "seed(1); bend(2) = 0; put"),
                "bill() = 49; hail(8) = 1; bill() = 49");
        edges.term("All is paid as it is done.", bent, """
                erase(0, 1); erase(1, 2); bill() = 2; pump(0, 1) = throws UnsupportedOperationException; bill() = 2;
                bend(0); bill() = 10; bend(0) = throws UnsupportedOperationException; bill() = 10;
                pump(0, 1) = throws UnsupportedOperationException; put(0, false, 0); pump(0, 0) = throws IllegalArgumentException;
                bill() = 10; pump(0, 1); bill() = 15; fill(0, 'n', 12) = throws UnsupportedOperationException; bill() = 15
                """);
        edges.says(43, "Returns the bills up to now.", "bill() = 0; point(0, 0); point(5, 5); stroke(0, 1); bill() = 0;",
                "circuit(10); hours(999); bill() = 0; make(0, 8); bill() = 1; make(0, 7)" + OUTSIDE + "bill() = 1;",
                "make(1, 8) = throws NoSuchElementException; bill() = 1");
    }

    private void refusedNumbers() {
        edges.thrown(39, "IllegalArgumentException", "allow(-1)" + OUTSIDE + "allow(10000)" + OUTSIDE
                + "allow(2147483647)" + OUTSIDE + "allow(-2147483648)" + OUTSIDE + "allow(0) = 9999; allow(9999) = 0");
        edges.thrown(40, "IllegalArgumentException", "dark(-1, 0)" + OUTSIDE + "dark(24, 0)" + OUTSIDE + "dark(0, -1)"
                + OUTSIDE + "dark(0, 24)" + OUTSIDE + "dark(24, 24)" + OUTSIDE + "dark(2147483647, 0)" + OUTSIDE
                + "dark(0, -2147483648)" + OUTSIDE + "dark(23, 23) = 0; dark(0, 0) = 575");
        edges.says(40, "- `from`: 0 to 23", "dark(-1, 5)" + OUTSIDE + "dark(24, 5)" + OUTSIDE
                + "dark(0, 5) = 0; dark(23, 5) = 5; dark(1, 5) = 557");
        edges.says(40, "- `until`: 0 to 23, the same for none", "dark(5, -1)" + OUTSIDE + "dark(5, 24)" + OUTSIDE
                + "dark(5, 0) = 0; dark(5, 23) = 120; dark(5, 5) = 143; dark(0, 0) = 125");
        edges.says(40, "Returns 24 times the hour from which before, and that until.",
                "dark(0, 0) = 0; dark(1, 0) = 0; dark(0, 1) = 24; dark(23, 22) = 1; dark(0, 23) = 574; dark(0, 0) = 23");
        edges.thrown(42, "IllegalArgumentException", Full.LINE, "make(0, 25); hail(7)" + OUTSIDE + "hail(26)" + OUTSIDE
                + "hail(0)" + OUTSIDE + "hail(-8)" + OUTSIDE + "hail(2147483647)" + OUTSIDE + "hail(-2147483648)" + OUTSIDE
                + "put(0, false, 0); bombard(0, 400); pump(0, 60); fill(0, 'n', 12); hail(7)" + OUTSIDE
                + "state(0) = f; hail(25) = 0; hail(8) = 1");
    }

    private void noBreach() {
        edges.says(41, "if there is none", NO_BREACH, "allow(0); dark(1, 0);", NO_BREACH, Full.CIRCUITS,
                "program(3, 1, true);", NO_BREACH, ONE.substring(0, ONE.indexOf("circuit")), NO_BREACH,
                "join(0, 0) = 30;", NO_BREACH, "part(0, 0) = 0; join(2, 0) = 30; program(2, 1, true);", NO_BREACH);
        edges.thrown(41, "NoSuchElementException", ONE, "dark(23, 22);", NO_BREACH, "program(0, 22, true);", NO_BREACH,
                "program(0, 21, true); breach() = 21");
    }

    private void checksums() {
        String words = "Returns 7 at first, then for each tube 31 times itself plus the letter of its state as a number, then "
                + "31 times itself plus its length, then 31 times itself plus the hours that it was lit; then for each "
                + "circuit 31 times itself plus its load; then 31 times itself plus the bills, then 31 times itself plus z.";
        edges.says(44, words, "checksum() = " + sumOf(0, 1) + "; seed(2147483646); checksum() = " + sumOf(0, 2147483646));
        edges.says(44, words, Full.CIRCUITS, "checksum() = " + sumOf(0, 1, 0, 0, 0, 0));
        edges.says(44, words, Full.LINE, "checksum() = " + sumOf(0, 1) + "; make(0, 8);",
                "checksum() = " + sumOf(10, 1, 'b', 95, 0) + "; smash(0); checksum() = " + sumOf(10, 1, 'x', 95, 0));
        edges.says(44, words, TWO, "program(0, 3, true); hours(100); checksum() = "
                + sumOf(53, 1, 'f', 20, 5, 'f', 9, 0, 30, 19));
        edges.says(44, words, Full.TUBES, Full.CIRCUITS, "smash(9); checksum() = " + sumOf(100, 1, 'b', 95, 0,
                'b', 95, 0, 'b', 95, 0, 'b', 95, 0, 'b', 95, 0, 'b', 95, 0, 'b', 95, 0, 'b', 95, 0, 'b', 95, 0,
                'x', 95, 0, 0, 0, 0, 0));
    }

    private static long sumOf(int bill, int z, int... terms) {
        long sum = 7;
        for (int term : terms) {
            sum = 31 * sum + term;
        }
        return 31 * (31 * sum + bill) + z;
    }

    private void shares() {
        edges.thrown(45, "NoSuchElementException", "filledShare() = throws NoSuchElementException;", Full.LINE,
                "filledShare() = throws NoSuchElementException; make(0, 8); filledShare() = 0.0; smash(0);",
                "filledShare() = 0.0", Lit.neon(1, 0), "filledShare() = 0.5; circuit(100); filledShare() = 0.5");
        StringBuilder ten = new StringBuilder(Full.LINE);
        String[] shares = {"1.0", "0.5", "0.33333334", "0.25", "0.2", "0.16666667", "0.14285715", "0.125", "0.11111111",
                "0.1"};
        ten.append(Lit.neon(0, 0)).append("filledShare() = 1.0;");
        for (int tube = 1; tube < 10; tube++) {
            ten.append("make(0, 8); filledShare() = ").append(shares[tube]).append(";");
        }
        edges.says(45, "Returns their number divided by that of all, both converted to float.", ten.toString(),
                "smash(1); filledShare() = 0.1; smash(0); filledShare() = 0.0");
    }

    private void sound() {
        String words = "Tells whether the tubes of the plan go along each stroke once; it has no fewer tubes than the "
                + "fewest; no tube is in two circuits; and those in circuits are filled or broken.";
        edges.says(47, words, "isSound() = true;", Full.STROKES, "isSound() = true; erase(0, 1); isSound() = true");
        edges.says(47, words, TWO, "isSound() = true; smash(0); isSound() = true; join(1, 0) = throws "
                + "UnsupportedOperationException; part(0, 0); isSound() = true; part(1, 1); join(0, 1); isSound() = true");
    }
}
