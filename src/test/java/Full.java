/** Pieces of runs: what is as full as the document allows. */
final class Full {
    /** Two rows of six points, 10 apart. */
    static final String POINTS = """
            point(0, 0) = 0; point(10, 0) = 1; point(20, 0) = 2; point(30, 0) = 3; point(40, 0) = 4;
            point(50, 0) = 5; point(0, 10) = 6; point(10, 10) = 7; point(20, 10) = 8;
            point(30, 10) = 9; point(40, 10) = 10; point(50, 10) = 11;
            """;
    /** All but one of the strokes that there may be, between the points above. */
    static final String SEVENTEEN_STROKES = """
            stroke(0, 1) = 1; stroke(0, 2) = 2; stroke(0, 3) = 3; stroke(0, 4) = 4; stroke(0, 5) = 5;
            stroke(0, 6) = 6; stroke(0, 7) = 7; stroke(0, 8) = 8; stroke(0, 9) = 9; stroke(0, 10) = 10;
            stroke(0, 11) = 11; stroke(1, 2) = 12; stroke(1, 3) = 13; stroke(1, 4) = 14; stroke(1, 5) = 15;
            stroke(1, 6) = 16; stroke(1, 7) = 17;
            """;
    static final String STROKES = POINTS + SEVENTEEN_STROKES + "stroke(1, 8) = 18;";
    /** A plan of one tube of 95 without turns. */
    static final String LINE = "point(0, 0) = 0; point(95, 0) = 1; stroke(0, 1) = 1;";
    static final String TUBES = LINE + """
            make(0, 8) = 0; make(0, 8) = 1; make(0, 8) = 2; make(0, 8) = 3; make(0, 8) = 4;
            make(0, 8) = 5; make(0, 8) = 6; make(0, 8) = 7; make(0, 8) = 8; make(0, 8) = 9;
            """;
    static final String CIRCUITS = "circuit(10) = 0; circuit(2000) = 1; circuit(100) = 2; circuit(101) = 3;";
    /** All hours but the last one that there may be. */
    static final String HOURS_BUT_ONE = "hours(999);".repeat(100) + "hours(98) = 14;";

    private Full() {
    }
}
