/** Pieces of runs: a plan of straight tubes, and filled tubes of it. */
final class Lit {
    /** Tubes of 50, 20, 9 and 1, without turns. */
    static final String PLAN = """
            point(0, 0); point(50, 0); point(0, 10); point(20, 10); point(0, 20); point(9, 20);
            point(0, 30); point(1, 30); stroke(0, 1); stroke(2, 3); stroke(4, 5); stroke(6, 7);
            """;

    private Lit() {
    }

    /** A tube of the plan as it is made and filled; number is the one that it must get. */
    static String filled(int number, int planned, int width, char gas, int pressure) {
        return "make(" + planned + ", " + width + ") = " + number
                + "; put(" + number + ", false, 0); bombard(" + number + ", 400); pump(" + number + ", 60)"
                + "; fill(" + number + ", '" + gas + "', " + pressure + ");";
    }

    static String neon(int number, int planned) {
        return filled(number, planned, 10, 'n', 12);
    }

    static String programAll(int circuit, boolean isOn) {
        StringBuilder calls = new StringBuilder();
        for (int hour = 0; hour < 24; hour++) {
            calls.append("program(").append(circuit).append(", ").append(hour).append(", ").append(isOn).append(");");
        }
        return calls.toString();
    }
}
