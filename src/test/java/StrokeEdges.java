/** The edges of what the document says of strokes and of the plan; promises 1 to 11 and 46. */
final class StrokeEdges {
    private final Edges edges;

    StrokeEdges(Edges edges) {
        this.edges = edges;
    }

    void run() {
        nothing();
        points();
        strokes();
        lengths();
        parts();
        fewest();
        plan();
        ways();
        turns();
        refusedPoints();
        refusedStrokes();
        refusedErasures();
        refusedPlan();
        meanLength();
    }

    private void nothing() {
        edges.says(1, "Creates a sign without points, tubes and circuits, at the hour 0.", """
                stroke(0, 0) = throws IndexOutOfBoundsException; state(0) = throws IndexOutOfBoundsException;
                circuitIs(0) = throws IndexOutOfBoundsException; hours(24) = 0; hours(1) = 1; isSound() = true
                """);
        edges.says(5, "Returns how many parts have strokes.", """
                parts() = 0; point(0, 0); parts() = 0; point(1, 1); parts() = 0; stroke(0, 1); parts() = 1;
                point(2, 2); parts() = 1; erase(1, 0) = 0; parts() = 0
                """);
        edges.says(6, "Returns how many points have an odd number of strokes.", Full.POINTS, """
                odd() = 0; stroke(0, 1); odd() = 2; stroke(2, 3); stroke(4, 5); stroke(6, 7); stroke(8, 9); odd() = 10;
                stroke(10, 11); odd() = 12; stroke(0, 11) = 7; odd() = 10; erase(11, 0); erase(0, 1); odd() = 10
                """);
        edges.says(7, "Returns the fewest tubes.", """
                fewest() = 0; point(0, 0); point(1, 1); fewest() = 0; stroke(0, 1); fewest() = 1; erase(0, 1);
                fewest() = 0
                """);
        edges.says(8, "Returns how many tubes the plan has.", """
                planned() = 0; point(0, 0); point(1, 1); planned() = 0; stroke(0, 1); planned() = 1; erase(0, 1);
                planned() = 0; isSound() = true
                """);
    }

    private void points() {
        edges.term("At most 12 points are numbered from 0,", Full.POINTS, """
                point(51, 10) = throws IllegalStateException; stroke(11, 0) = 1;
                stroke(12, 0) = throws IndexOutOfBoundsException; point(99, 99) = throws IllegalStateException
                """);
        edges.term("each at a place, x and y from 0 to 99,", """
                point(0, 0) = 0; point(99, 99) = 1; point(0, 99) = 2; point(99, 0) = 3;
                point(-1, 5) = throws IllegalArgumentException; point(100, 5) = throws IllegalArgumentException;
                point(5, -1) = throws IllegalArgumentException; point(5, 100) = throws IllegalArgumentException;
                point(-2147483648, 5) = throws IllegalArgumentException;
                point(5, 2147483647) = throws IllegalArgumentException; point(5, 5) = 4
                """);
        edges.term("unlike ones.", """
                point(3, 4) = 0; point(3, 4) = throws UnsupportedOperationException; point(4, 3) = 1; point(3, 3) = 2;
                point(4, 4) = 3; point(3, 5) = 4; point(2, 4) = 5; point(4, 3) = throws UnsupportedOperationException;
                point(2, 4) = throws UnsupportedOperationException
                """);
    }

    private void strokes() {
        edges.term("At most 18 strokes join two points each,", Full.POINTS, Full.SEVENTEEN_STROKES, """
                stroke(1, 8) = 18; stroke(1, 9) = throws IllegalStateException; erase(0, 11) = 17; stroke(9, 1) = 18;
                stroke(0, 11) = throws IllegalStateException; planned() = 1; points(0) = 19; isSound() = true
                """);
        edges.term("at most one the same two.", """
                point(0, 0); point(1, 0); point(2, 0); stroke(0, 1) = 1; stroke(0, 1) = throws UnsupportedOperationException;
                stroke(1, 0) = throws UnsupportedOperationException; stroke(1, 2) = 2; stroke(2, 0) = 3;
                stroke(2, 1) = throws UnsupportedOperationException; erase(1, 0) = 2; stroke(1, 0) = 3;
                stroke(0, 1) = throws UnsupportedOperationException
                """);
    }

    private void lengths() {
        // The places and the root, cut: whole roots, and what is one square below and above them.
        int[][] roots = {{1, 0, 1}, {0, 1, 1}, {1, 1, 1}, {1, 2, 2}, {2, 2, 2}, {3, 0, 3}, {2, 3, 3}, {3, 3, 4},
                {3, 4, 5}, {4, 4, 5}, {5, 5, 7}, {6, 6, 8}, {99, 0, 99}, {99, 14, 99}, {99, 15, 100}, {96, 28, 100},
                {95, 31, 99}, {60, 80, 100}, {60, 79, 99}, {61, 80, 100}, {99, 98, 139}, {99, 99, 140}};
        for (int[] root : roots) {
            String far = "point(" + root[0] + ", " + root[1] + ");";
            String told = "stroke(1, 0) = 1; meanLength() = " + root[2] + ".0; make(0, 8); length(0) = " + root[2];
            String words = "A stroke is as long as the root, cut, of the squares of both differences, summed up.";
            edges.term(words, "point(0, 0);", far, told);
            edges.term(words, far, "point(0, 0);", told);
            edges.term(words, "point(0, " + root[1] + "); point(" + root[0] + ", 0);", told);
        }
    }

    private void parts() {
        edges.term("Strokes that hang together are a part.", Full.POINTS, """
                parts() = 0; stroke(0, 1); parts() = 1; stroke(1, 2); parts() = 1; stroke(3, 4); parts() = 2;
                stroke(2, 3); parts() = 1; erase(1, 2); parts() = 2; erase(0, 1); parts() = 1
                """);
        // A stroke that crosses another, or passes over a point, does not hang together with it.
        edges.term("Strokes that hang together are a part.", """
                point(0, 0); point(20, 20); point(0, 20); point(20, 0); point(10, 10); point(10, 30);
                stroke(0, 1); stroke(2, 3); parts() = 2; stroke(4, 5); parts() = 3; fewest() = 3; planned() = 3
                """);
        edges.term("Strokes that hang together are a part.", Full.POINTS, """
                stroke(0, 1); stroke(2, 3); stroke(4, 5); stroke(6, 7); stroke(8, 9); stroke(10, 11); parts() = 6;
                stroke(11, 0); stroke(1, 10); parts() = 5; stroke(9, 6); stroke(7, 4); stroke(5, 2); parts() = 2;
                stroke(3, 0); parts() = 1
                """);
    }

    private void fewest() {
        String words = "The fewest tubes that draw all strokes, each once and without a break, are for each part half "
                + "as many as it has points of an odd number of strokes, 1 at least.";
        edges.term(words, Full.POINTS, """
                fewest() = 0; stroke(0, 1); odd() = 2; fewest() = 1; stroke(1, 2); odd() = 2; fewest() = 1;
                stroke(2, 0); odd() = 0; fewest() = 1; stroke(0, 3); odd() = 2; fewest() = 1; stroke(1, 4); odd() = 4;
                fewest() = 2; stroke(2, 5); odd() = 6; fewest() = 3; erase(0, 1); odd() = 4; fewest() = 2
                """);
        edges.term(words, Full.POINTS, """
                stroke(0, 1); stroke(1, 2); stroke(2, 0); stroke(3, 4); stroke(4, 5); stroke(5, 3); odd() = 0;
                fewest() = 2; stroke(6, 7); stroke(7, 8); stroke(8, 6); stroke(9, 10); stroke(10, 11); odd() = 2;
                fewest() = 4; stroke(11, 9); odd() = 0; fewest() = 4
                """);
        edges.term(words, Full.POINTS, """
                stroke(0, 1); stroke(0, 2); stroke(0, 3); stroke(0, 4); stroke(0, 5); stroke(0, 6); stroke(0, 7);
                stroke(0, 8); stroke(0, 9); stroke(0, 10); odd() = 10; fewest() = 5; stroke(0, 11); odd() = 12;
                fewest() = 6; planned() = 6; parts() = 1
                """);
        edges.term(words, Full.POINTS, """
                stroke(0, 1); stroke(2, 3); stroke(4, 5); stroke(6, 7); stroke(8, 9); stroke(10, 11); odd() = 12;
                fewest() = 6; planned() = 6; points(5) = 2; through(5, 0) = 10; through(5, 1) = 11
                """);
    }

    private void plan() {
        edges.term("It has tubes, one behind the other, until all strokes are drawn:", """
                planned() = 0; point(0, 0); point(1, 1); point(2, 2); planned() = 0; stroke(1, 2); planned() = 1;
                points(0) = 2; through(0, 0) = 1; through(0, 1) = 2; stroke(0, 1); planned() = 1; points(0) = 3
                """);
        edges.term("It has tubes, one behind the other, until all strokes are drawn:", Full.STROKES, """
                planned() = 2; points(0) = 17; points(1) = 3; isSound() = true; erase(0, 1) = 17; planned() = 2;
                points(0) = 16; through(0, 0) = 1; through(0, 15) = 9; points(1) = 3; through(1, 0) = 10;
                through(1, 1) = 0; through(1, 2) = 11
                """);
        // The longest tube that there may be: 18 strokes on one way.
        edges.term("It has tubes, one behind the other, until all strokes are drawn:", Full.POINTS, """
                stroke(0, 1); stroke(1, 2); stroke(2, 3); stroke(3, 4); stroke(4, 5); stroke(5, 6); stroke(6, 7);
                stroke(7, 8); stroke(8, 9); stroke(9, 10); stroke(10, 11); stroke(11, 0); stroke(0, 2); stroke(2, 4);
                stroke(4, 6); stroke(6, 8); stroke(8, 10); stroke(10, 0) = 18; odd() = 0; fewest() = 1; planned() = 1;
                points(0) = 19; through(0, 0) = 0; through(0, 18) = 0;
                through(0, 19) = throws NoSuchElementException; isSound() = true
                """);
    }

    private void ways() {
        // Behind the first tube 2 and 3 are odd still, and 0 is not.
        edges.term("each begins at the lowest point that has an odd number of strokes left,", """
                point(0, 0); point(10, 0); point(20, 0); point(30, 0); stroke(3, 0); stroke(2, 0); stroke(1, 0);
                planned() = 2; points(0) = 2; through(0, 0) = 0; through(0, 1) = 1; points(1) = 3; through(1, 0) = 2;
                through(1, 1) = 0; through(1, 2) = 3
                """);
        edges.term("each begins at the lowest point that has an odd number of strokes left,", Full.POINTS, """
                stroke(0, 1); stroke(1, 2); stroke(2, 0); stroke(11, 10); planned() = 2; points(0) = 2;
                through(0, 0) = 10; through(0, 1) = 11; through(1, 0) = 0
                """);
        edges.term("without such at the lowest that has one left,", Full.POINTS, """
                stroke(11, 10); stroke(10, 9); stroke(9, 11); planned() = 1; through(0, 0) = 9; through(0, 1) = 10;
                stroke(0, 11); stroke(11, 1); stroke(1, 0); through(0, 0) = 0; points(0) = 4; planned() = 2;
                erase(11, 0); erase(1, 11); stroke(1, 2); stroke(2, 0); erase(0, 1); stroke(0, 3); stroke(3, 1);
                planned() = 2; through(0, 0) = 0; through(1, 0) = 9; points(1) = 4
                """);
        edges.term("and goes on along a stroke that is left to the point with the lowest number,", Full.POINTS, """
                stroke(5, 11); stroke(5, 8); stroke(5, 6); stroke(5, 3); stroke(3, 11); odd() = 2; planned() = 1;
                points(0) = 6; through(0, 0) = 6; through(0, 1) = 5; through(0, 2) = 3; through(0, 3) = 11;
                through(0, 4) = 5; through(0, 5) = 8
                """);
        // The way ends where it began though strokes are left elsewhere.
        edges.term("as long as there is one.", """
                point(0, 0); point(10, 0); point(20, 0); point(20, 10); point(10, 10);
                stroke(0, 1); stroke(0, 2); stroke(1, 2); stroke(2, 3); stroke(3, 4); stroke(4, 2); planned() = 2;
                fewest() = 1; points(0) = 4; through(0, 3) = 0; points(1) = 4; through(1, 0) = 2; through(1, 1) = 3;
                through(1, 3) = 2; isSound() = true
                """);
    }

    private void turns() {
        String turn = "A turn is where it goes on in another direction, at a point in its middle;";
        String sharp = "it is sharp if the way on goes back in part against the way it came, or back wholly;";
        turnAt(turn, "90, 50", 0, 0);
        turnAt(turn, "61, 50", 0, 0);
        turnAt(turn, "99, 51", 1, 0);
        turnAt(turn, "99, 49", 1, 0);
        turnAt(turn, "61, 51", 1, 0);
        turnAt(sharp, "59, 99", 1, 1);
        turnAt(sharp, "59, 0", 1, 1);
        turnAt(sharp, "61, 99", 1, 0);
        turnAt(sharp, "61, 0", 1, 0);
        turnAt(sharp, "0, 51", 1, 1);
        turnAt(sharp, "0, 50", 1, 1);
        turnAt(sharp, "59, 50", 1, 1);
        turnAt("a right angle is not sharp.", "60, 99", 1, 0);
        turnAt("a right angle is not sharp.", "60, 51", 1, 0);
        turnAt("a right angle is not sharp.", "60, 0", 1, 0);
        // The least that goes back, none, and the least that goes on; and the least that is aside.
        shortTurn(sharp, "0, 1", 1, 1);
        shortTurn("a right angle is not sharp.", "1, 1", 1, 0);
        shortTurn(sharp, "2, 1", 1, 0);
        shortTurn(turn, "2, 0", 0, 0);
        shortTurn(turn, "99, 1", 1, 0);
        edges.term("a right angle is not sharp.", """
                point(50, 50); point(60, 70); point(40, 80); stroke(0, 1); stroke(1, 2); corners(0, false) = 1;
                corners(0, true) = 0; point(81, 61); stroke(2, 3); corners(0, false) = 2; corners(0, true) = 1
                """);
        edges.term(turn, """
                point(0, 0); point(10, 0); point(10, 10); stroke(0, 1); corners(0, false) = 0; corners(0, true) = 0;
                stroke(1, 2); corners(0, false) = 1; stroke(2, 0); points(0) = 4; corners(0, false) = 2;
                corners(0, true) = 1
                """);
        edges.term(turn, Full.STROKES, "points(0) = 17; corners(0, false) = 14; corners(0, true) = 13");
    }

    private void turnAt(String words, String last, int all, int sharp) {
        edges.term(words, "point(50, 50); point(60, 50); point(" + last + ") = 2; stroke(0, 1); stroke(1, 2)",
                "points(0) = 3; corners(0, false) = " + all + "; corners(0, true) = " + sharp);
    }

    private void shortTurn(String words, String last, int all, int sharp) {
        edges.term(words, "point(0, 0); point(1, 0); point(" + last + ") = 2; stroke(0, 1); stroke(1, 2)",
                "points(0) = 3; corners(0, false) = " + all + "; corners(0, true) = " + sharp);
    }

    private void refusedPoints() {
        edges.thrown(2, "IllegalArgumentException", """
                point(0, 0) = 0; point(-1, 0) = throws IllegalArgumentException;
                point(0, -1) = throws IllegalArgumentException; point(99, 99) = 1;
                point(100, 99) = throws IllegalArgumentException; point(99, 100) = throws IllegalArgumentException;
                point(100, 100) = throws IllegalArgumentException; point(1, 1) = 2
                """);
        edges.thrown(2, "UnsupportedOperationException", """
                point(0, 99) = 0; point(0, 99) = throws UnsupportedOperationException; point(99, 0) = 1;
                point(99, 0) = throws UnsupportedOperationException; point(0, 98) = 2
                """);
        edges.thrown(2, "IllegalStateException", Full.POINTS, """
                point(60, 10) = throws IllegalStateException; point(0, 1) = throws IllegalStateException
                """);
    }

    private void refusedStrokes() {
        edges.thrown(3, "IndexOutOfBoundsException", """
                stroke(0, 1) = throws IndexOutOfBoundsException; point(0, 0);
                stroke(0, 1) = throws IndexOutOfBoundsException; stroke(1, 0) = throws IndexOutOfBoundsException;
                point(1, 1); stroke(0, -1) = throws IndexOutOfBoundsException;
                stroke(-1, 0) = throws IndexOutOfBoundsException; stroke(0, 2) = throws IndexOutOfBoundsException;
                stroke(2, 0) = throws IndexOutOfBoundsException; stroke(1, 0) = 1
                """);
        edges.thrown(3, "IllegalArgumentException", """
                point(0, 0); stroke(0, 0) = throws IllegalArgumentException; point(1, 1);
                stroke(1, 1) = throws IllegalArgumentException; stroke(0, 1) = 1;
                stroke(0, 0) = throws IllegalArgumentException
                """);
        edges.thrown(3, "UnsupportedOperationException", Full.POINTS, """
                stroke(11, 10) = 1; stroke(11, 10) = throws UnsupportedOperationException;
                stroke(10, 11) = throws UnsupportedOperationException; stroke(11, 9) = 2
                """);
        edges.thrown(3, "IllegalStateException", Full.STROKES, """
                stroke(10, 11) = throws IllegalStateException; stroke(11, 10) = throws IllegalStateException;
                erase(8, 1) = 17; stroke(10, 11) = 18; stroke(1, 8) = throws IllegalStateException
                """);
    }

    private void refusedErasures() {
        edges.thrown(4, "IndexOutOfBoundsException", """
                erase(0, 0) = throws IndexOutOfBoundsException; point(0, 0); point(1, 1); stroke(0, 1);
                erase(-1, 1) = throws IndexOutOfBoundsException; erase(1, -1) = throws IndexOutOfBoundsException;
                erase(2, 1) = throws IndexOutOfBoundsException; erase(1, 2) = throws IndexOutOfBoundsException;
                erase(-1, -1) = throws IndexOutOfBoundsException; erase(0, 1) = 0
                """);
        edges.thrown(4, "UnsupportedOperationException", Full.STROKES, """
                erase(11, 10) = throws UnsupportedOperationException; erase(0, 0) = throws UnsupportedOperationException;
                erase(8, 1) = 17; erase(1, 8) = throws UnsupportedOperationException; erase(11, 0) = 16
                """);
        edges.says(4, "Returns how many are left.", """
                point(0, 0); point(1, 0); point(2, 0); stroke(0, 1); stroke(1, 2); erase(0, 1) = 1; erase(2, 1) = 0;
                parts() = 0; odd() = 0; fewest() = 0; planned() = 0; points(0) = throws NoSuchElementException
                """);
    }

    private void refusedPlan() {
        edges.thrown(9, "NoSuchElementException", """
                points(0) = throws NoSuchElementException; point(0, 0); point(1, 1); stroke(0, 1); points(0) = 2;
                points(-1) = throws NoSuchElementException; points(1) = throws NoSuchElementException;
                points(2147483647) = throws NoSuchElementException; points(-2147483648) = throws NoSuchElementException
                """);
        edges.thrown(10, "NoSuchElementException", Full.STROKES, """
                through(0, 0) = 0; through(0, 16) = 9; through(0, 17) = throws NoSuchElementException;
                through(0, -1) = throws NoSuchElementException; through(1, 0) = 10; through(1, 2) = 11;
                through(1, 3) = throws NoSuchElementException; through(1, -1) = throws NoSuchElementException;
                through(2, 0) = throws NoSuchElementException; through(-1, 0) = throws NoSuchElementException;
                through(0, 2147483647) = throws NoSuchElementException;
                through(1, 2147483647) = throws NoSuchElementException;
                through(2147483647, 0) = throws NoSuchElementException;
                through(1, -2147483648) = throws NoSuchElementException
                """);
        edges.says(10, "- `index`: the index, from 0", "through(0, 0) = throws NoSuchElementException;", Full.LINE, """
                through(0, -1) = throws NoSuchElementException; through(0, 0) = 0; through(0, 1) = 1;
                through(0, 2) = throws NoSuchElementException
                """);
        edges.thrown(11, "NoSuchElementException", """
                corners(0, false) = throws NoSuchElementException; corners(0, true) = throws NoSuchElementException;
                point(0, 0); point(1, 1); stroke(0, 1); corners(0, false) = 0; corners(0, true) = 0;
                corners(1, false) = throws NoSuchElementException; corners(1, true) = throws NoSuchElementException;
                corners(-1, false) = throws NoSuchElementException; corners(-1, true) = throws NoSuchElementException
                """);
        for (int promise = 9; promise <= 11; promise++) {
            String rest = promise == 9 ? ")" : promise == 10 ? ", 0)" : ", true)";
            String call = (promise == 9 ? "points(" : promise == 10 ? "through(" : "corners(");
            String answer = " = " + (promise == 9 ? 2 : promise == 10 ? 10 : 0) + ";";
            // Six tubes of the plan, with the numbers 0 to 5.
            edges.says(promise, "- `tube`: a tube of the plan, from 0", Full.POINTS, """
                    stroke(0, 1); stroke(2, 3); stroke(4, 5); stroke(6, 7); stroke(8, 9); stroke(10, 11);
                    """, call + 5 + rest + answer, call + 6 + rest + " = throws NoSuchElementException;",
                    call + -1 + rest + " = throws NoSuchElementException");
        }
    }

    private void meanLength() {
        edges.thrown(46, "NoSuchElementException", """
                meanLength() = throws NoSuchElementException; point(0, 0); point(0, 2); point(1, 0);
                meanLength() = throws NoSuchElementException; stroke(0, 1); meanLength() = 2.0; stroke(0, 2);
                meanLength() = 1.5; erase(0, 1); meanLength() = 1.0; erase(0, 2);
                meanLength() = throws NoSuchElementException
                """);
        edges.says(46, "Returns the sum divided by their number, both converted to double.", Full.STROKES, """
                meanLength() = 25.333333333333332; erase(0, 11); meanLength() = 23.88235294117647
                """);
    }
}
