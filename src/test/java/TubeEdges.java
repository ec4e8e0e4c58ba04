/** The edges of what the document says of tubes as they are made and bent; promises 12 to 17 and 26. */
final class TubeEdges {
    /** A plan of one tube of 20 with a turn at a right angle. */
    private static final String RIGHT = "point(0, 0); point(10, 0); point(10, 10); stroke(0, 1); stroke(1, 2);";
    /** A plan of one tube of 15 with a sharp turn, wholly back. */
    private static final String SHARP = "point(0, 0); point(10, 0); point(5, 0); stroke(0, 1); stroke(1, 2);";
    /** A plan of one tube of 40 with three turns at right angles. */
    private static final String THREE = """
            point(0, 0); point(10, 0); point(10, 10); point(0, 10); point(0, 20); stroke(0, 1); stroke(1, 2);
            stroke(2, 3); stroke(3, 4);
            """;

    private final Edges edges;

    TubeEdges(Edges edges) {
        this.edges = edges;
    }

    void run() {
        made();
        states();
        minutes();
        draws();
        risks();
        zAtItsEnds();
        bentWithTheLast();
        refusedMakings();
        refusedNumbers();
        refusedBends();
        smashed();
    }

    private void made() {
        edges.term("At most 10 are numbered from 0,", Full.TUBES, """
                make(0, 8) = throws IllegalStateException; state(9) = b; state(10) = throws IndexOutOfBoundsException;
                smash(0); smash(9); make(0, 8) = throws IllegalStateException; bill() = 100
                """);
        edges.term("made by the plan as it is then, the one of a number of it,", RIGHT, """
                point(50, 50); point(99, 50); stroke(3, 4); planned() = 2; make(0, 9) = 0; make(1, 9) = 1;
                length(0) = 20; length(1) = 49; erase(0, 1); planned() = 2; make(0, 9) = 2; length(2) = 10;
                length(0) = 20; state(0) = s; bend(0) = 0; erase(1, 2); erase(3, 4); planned() = 0;
                make(0, 9) = throws NoSuchElementException; length(1) = 49
                """);
        edges.term("with a width, 8 to 25.", Full.LINE, """
                make(0, 7) = throws IllegalArgumentException; make(0, 8) = 0; make(0, 9) = 1; make(0, 24) = 2;
                make(0, 25) = 3; make(0, 26) = throws IllegalArgumentException
                """);
    }

    private void states() {
        String words = "A tube is as long as its strokes together, has its turns, and is 's' straight at first, "
                + "then 'b' bent, 'p' on the plant, 'f' filled, and 'x' when broken.";
        // Each of these strokes is cut for itself: 2 and 2, not 5 of them together.
        edges.term(words, """
                point(0, 0); point(2, 2); point(4, 4); stroke(0, 1); make(0, 8); length(0) = 2; stroke(1, 2);
                make(0, 8); length(1) = 4; state(1) = b; length(0) = 2
                """);
        edges.term(words, RIGHT, """
                make(0, 8) = 0; state(0) = s; bend(0) = 0; state(0) = b; put(0, false, 0) = 1000; state(0) = p;
                bombard(0, 400); state(0) = p; pump(0, 60); state(0) = p; fill(0, 'a', 5) = 20; state(0) = f;
                circuit(30); join(0, 0); state(0) = f; smash(0) = true; state(0) = x; length(0) = 20
                """);
        edges.term(words, Full.STROKES, """
                make(0, 8) = 0; length(0) = 365; make(1, 8) = 1; length(1) = 91; bill() = 47
                """);
        edges.term("No bend is made twice,", RIGHT, """
                make(0, 8); bend(0) = 0; bend(0) = throws UnsupportedOperationException; bill() = 10; make(0, 8);
                risk(60); seed(420145337); bend(1) = -1; bend(1) = throws UnsupportedOperationException; bill() = 20
                """);
    }

    private void minutes() {
        String words = "Each takes as many minutes as the width, 5 more if it is sharp.";
        int[] widths = {8, 9, 24, 25};
        for (int width : widths) {
            edges.term(words, RIGHT, "make(0, " + width + "); bill() = 2; bend(0) = 0; bill() = " + (2 + width));
            edges.term(words, SHARP, "make(0, " + width + "); bill() = 2; bend(0) = 0; bill() = " + (7 + width));
        }
        edges.term("Its turns are bent one by one, in their order.", """
                point(0, 0); point(10, 0); point(20, 0); point(20, 10); point(20, 5); point(30, 5); stroke(0, 1);
                stroke(1, 2); stroke(2, 3); stroke(3, 4); stroke(4, 5); corners(0, false) = 3; corners(0, true) = 1;
                make(0, 8); bill() = 5; bend(0) = 2; bill() = 13; bend(0) = 1; bill() = 26; bend(0) = 0; bill() = 34
                """);
    }

    private void draws() {
        String words = "For each a draw of 100 is made, whatever the risk;";
        edges.term(words, THREE, """
                make(0, 8); risk(0) = 0; bend(0) = 2; seed(48271) = 48271; bend(0) = 1; seed(182605794) = 182605794;
                bend(0) = 0; seed(1) = 1291394886
                """);
        edges.term(words, SHARP, "make(0, 8); risk(60); seed(5); bend(0) = -1; seed(1) = 241355");
        String made = "A draw makes z, 1 at first, z times 48271 modulo 2147483647, and is that modulo 100.";
        edges.term(made, RIGHT, "seed(1) = 1; make(0, 8); bend(0) = 0; seed(7) = 48271; seed(1) = 7");
        // z times 48271 is just below the modulus with 44488 and above it with 44489.
        edges.term(made, RIGHT, "make(0, 8); seed(44488); bend(0) = 0; seed(1) = 2147480248");
        edges.term(made, RIGHT, "make(0, 8); seed(44489); bend(0) = 0; seed(1) = 44872");
    }

    private void risks() {
        String words = "less than the risk, 0 to 60, 0 at first, twice that if it is sharp, it breaks the tube.";
        // Each z here makes the number that is told behind it, so that is the draw.
        bendsAt(words, RIGHT, 1003294964, 0, 0, false);
        bendsAt(words, RIGHT, 1003294964, 1, 0, true);
        bendsAt(words, RIGHT, 1899818559, 1, 1, false);
        bendsAt(words, RIGHT, 1899818559, 2, 1, true);
        bendsAt(words, RIGHT, 420145337, 59, 59, false);
        bendsAt(words, RIGHT, 420145337, 60, 59, true);
        bendsAt(words, RIGHT, 172480249, 60, 60, false);
        bendsAt(words, RIGHT, 1250960052, 60, 99, false);
        bendsAt(words, SHARP, 1003294964, 0, 0, false);
        bendsAt(words, SHARP, 1003294964, 1, 0, true);
        bendsAt(words, SHARP, 1899818559, 1, 1, true);
        bendsAt(words, SHARP, 1736814269, 9, 19, false);
        bendsAt(words, SHARP, 1736814269, 10, 19, true);
        bendsAt(words, SHARP, 1489149181, 10, 20, false);
        bendsAt(words, SHARP, 1489149181, 11, 20, true);
        bendsAt(words, SHARP, 1498625140, 49, 98, false);
        bendsAt(words, SHARP, 1746290228, 49, 97, true);
        bendsAt(words, SHARP, 1250960052, 49, 99, false);
        bendsAt(words, SHARP, 1250960052, 50, 99, true);
        bendsAt(words, SHARP, 1250960052, 60, 99, true);
        edges.term(words, """
                risk(60) = 0; risk(0) = 60; risk(61) = throws IllegalArgumentException;
                risk(-1) = throws IllegalArgumentException; risk(0) = 0
                """);
        // The risk is that of each bend, not that of the tube as it was made.
        edges.term(words, THREE, """
                risk(60); make(0, 8); seed(172480249); bend(0) = 2; seed(420145337); risk(59) = 60; bend(0) = 1;
                seed(420145337); risk(60) = 59; bend(0) = -1; state(0) = x
                """);
    }

    private void bendsAt(String words, String plan, int z, int risk, int draw, boolean breaks) {
        edges.term(words, plan, "make(0, 8); risk(" + risk + "); seed(" + z + ");",
                "bend(0) = " + (breaks ? -1 : 0) + "; state(0) = " + (breaks ? "x" : "b"),
                "bill() = " + (plan.equals(SHARP) ? 15 : 10) + "; seed(1) = " + (draw == 0 ? 100 : draw));
    }

    private void zAtItsEnds() {
        String words = "- `z`: z, 1 to 2147483646";
        edges.says(16, words, """
                seed(1) = 1; seed(2147483646) = 1; seed(2147483647) = throws IllegalArgumentException;
                seed(0) = throws IllegalArgumentException; seed(2147483646) = 2147483646
                """);
        // From the least z and from the most, and to either of them.
        edges.says(16, words, RIGHT, "make(0, 8); seed(1); bend(0); seed(1) = 48271");
        edges.says(16, words, RIGHT, "make(0, 8); seed(2147483646); bend(0); seed(1) = 2147435376");
        edges.says(16, words, RIGHT, "make(0, 8); seed(1899818559); bend(0); seed(1) = 1");
        edges.says(16, words, RIGHT, "make(0, 8); seed(247665088); bend(0); seed(1) = 2147483646");
        edges.says(16, words, RIGHT, "make(0, 8); seed(247665088); risk(46); bend(0) = 0; checksum() = "
                + sumOf('b', 10));
        edges.says(16, words, RIGHT, "make(0, 8); seed(247665088); risk(47); bend(0) = -1; checksum() = "
                + sumOf('x', 10));
    }

    private static long sumOf(char letter, int bill) {
        return ((((7L * 31 + letter) * 31 + 20) * 31 + 0) * 31 + bill) * 31 + 2147483646;
    }

    private void bentWithTheLast() {
        edges.term("It is bent with its last turn;", THREE, """
                make(0, 8); state(0) = s; put(0, false, 0) = throws UnsupportedOperationException; bend(0) = 2;
                state(0) = s; bend(0) = 1; state(0) = s; put(0, false, 0) = throws UnsupportedOperationException;
                bend(0) = 0; state(0) = b; put(0, false, 0) = 1000
                """);
        edges.term("It is bent with its last turn;", Full.STROKES, "make(0, 8); bend(0) = 13;",
                "bend(0);".repeat(11), "bend(0) = 1; state(0) = s; bend(0) = 0; state(0) = b; bill() = 214");
        edges.term("one without turns is so as it is made.", """
                point(0, 0); point(10, 0); point(20, 0); point(20, 1); stroke(0, 1); make(0, 8); state(0) = b;
                bend(0) = throws UnsupportedOperationException; stroke(1, 2); make(0, 8); state(1) = b;
                put(1, false, 0) = 1000; stroke(2, 3); make(0, 8); state(2) = s; bend(2) = 0; bill() = 14
                """);
        edges.says(17, "Returns how many are left, -1 if it breaks.", THREE, """
                make(0, 8); bend(0) = 2; bend(0) = 1; bend(0) = 0; make(0, 8); bend(1) = 2; risk(60);
                seed(420145337); bend(1) = -1
                """);
    }

    private void refusedMakings() {
        edges.thrown(12, "IllegalArgumentException", Full.LINE, """
                make(0, 7) = throws IllegalArgumentException; make(0, 26) = throws IllegalArgumentException;
                make(0, 0) = throws IllegalArgumentException; make(0, -8) = throws IllegalArgumentException;
                make(0, 2147483647) = throws IllegalArgumentException;
                make(0, -2147483648) = throws IllegalArgumentException; make(0, 25) = 0
                """);
        edges.thrown(12, "NoSuchElementException", """
                make(0, 8) = throws NoSuchElementException; point(0, 0); point(0, 5);
                make(0, 8) = throws NoSuchElementException; stroke(0, 1); make(1, 8) = throws NoSuchElementException;
                make(-1, 8) = throws NoSuchElementException; make(2147483647, 8) = throws NoSuchElementException;
                make(-2147483648, 8) = throws NoSuchElementException; make(0, 8) = 0
                """);
        edges.says(12, "a tube of the plan, from 0", Full.POINTS, """
                stroke(0, 1); stroke(2, 3); stroke(4, 5); stroke(6, 7); stroke(8, 9); stroke(10, 11);
                make(6, 8) = throws NoSuchElementException; make(5, 8) = 0; make(0, 8) = 1; length(0) = 10
                """);
        edges.thrown(12, "IllegalStateException", Full.TUBES, """
                make(0, 8) = throws IllegalStateException; make(0, 25) = throws IllegalStateException; bill() = 100
                """);
        for (int promise = 13; promise <= 14; promise++) {
            String call = promise == 13 ? "length(" : "state(";
            String none = ") = throws IndexOutOfBoundsException;";
            edges.thrown(promise, "IndexOutOfBoundsException", call + 0 + none, Full.TUBES,
                    call + 10 + none + call + -1 + none + call + 2147483647 + none + call + -2147483648 + none,
                    call + "0) = " + (promise == 13 ? "95;" : "b;") + call + "9) = " + (promise == 13 ? "95" : "b"));
        }
    }

    private void refusedNumbers() {
        edges.thrown(15, "IllegalArgumentException", """
                risk(-1) = throws IllegalArgumentException; risk(61) = throws IllegalArgumentException; risk(60) = 0;
                risk(-2147483648) = throws IllegalArgumentException;
                risk(2147483647) = throws IllegalArgumentException; risk(0) = 60; risk(0) = 0
                """);
        edges.says(15, "- `risk`: 0 to 60", """
                risk(0) = 0; risk(1) = 0; risk(59) = 1; risk(60) = 59; risk(61) = throws IllegalArgumentException;
                risk(-1) = throws IllegalArgumentException; risk(0) = 60
                """);
        edges.thrown(16, "IllegalArgumentException", """
                seed(0) = throws IllegalArgumentException; seed(-1) = throws IllegalArgumentException;
                seed(2147483647) = throws IllegalArgumentException;
                seed(-2147483648) = throws IllegalArgumentException; seed(2) = 1; seed(2147483646) = 2; seed(1) = 2147483646
                """);
    }

    private void refusedBends() {
        edges.thrown(17, "IndexOutOfBoundsException", "bend(0) = throws IndexOutOfBoundsException;", RIGHT, """
                bend(0) = throws IndexOutOfBoundsException; make(0, 8); bend(1) = throws IndexOutOfBoundsException;
                bend(-1) = throws IndexOutOfBoundsException; bend(2147483647) = throws IndexOutOfBoundsException;
                bend(-2147483648) = throws IndexOutOfBoundsException; seed(1) = 1; bend(0) = 0
                """);
        edges.thrown(17, "UnsupportedOperationException", RIGHT, """
                make(0, 8); make(0, 8); bend(0) = 0; bend(0) = throws UnsupportedOperationException;
                put(0, false, 0); bend(0) = throws UnsupportedOperationException; bombard(0, 400); pump(0, 60);
                fill(0, 'n', 12); bend(0) = throws UnsupportedOperationException; smash(0);
                bend(0) = throws UnsupportedOperationException; smash(1);
                bend(1) = throws UnsupportedOperationException; seed(1) = 48271; bill() = 37
                """);
    }

    private void smashed() {
        edges.thrown(26, "IndexOutOfBoundsException", "smash(0) = throws IndexOutOfBoundsException;", Full.TUBES, """
                smash(10) = throws IndexOutOfBoundsException; smash(-1) = throws IndexOutOfBoundsException;
                smash(2147483647) = throws IndexOutOfBoundsException;
                smash(-2147483648) = throws IndexOutOfBoundsException; smash(9) = false; smash(0) = false
                """);
        edges.thrown(26, "UnsupportedOperationException", RIGHT, """
                make(0, 8); make(0, 8); make(0, 8); smash(0) = false; smash(0) = throws UnsupportedOperationException;
                risk(60); seed(420145337); bend(1) = -1; smash(1) = throws UnsupportedOperationException; risk(0);
                bend(2); put(2, false, 0); bombard(2, 400); pump(2, 60); fill(2, 'n', 12); hail(8) = 0;
                make(0, 9); bend(3); put(3, false, 0); bombard(3, 400); pump(3, 60); fill(3, 'n', 12); hail(8) = 1;
                smash(3) = throws UnsupportedOperationException; smash(2) = true;
                smash(2) = throws UnsupportedOperationException
                """);
        edges.says(26, "Returns whether it was filled.", RIGHT, """
                make(0, 8); make(0, 8); make(0, 8); make(0, 8); bend(1); bend(2); bend(3); put(2, true, 0);
                put(3, false, 0); bombard(3, 400); pump(3, 60); fill(3, 'a', 20); smash(0) = false; smash(1) = false;
                smash(2) = false; smash(3) = true
                """);
    }
}
