/** Promises 1 to 11: points, strokes, parts, the fewest tubes and the plan; and meanLength, 46. */
public final class StrokesTest {
    private static final String TWELVE_POINTS = """
            point(0, 0) = 0; point(10, 0) = 1; point(20, 0) = 2; point(30, 0) = 3; point(40, 0) = 4;
            point(50, 0) = 5; point(0, 10) = 6; point(10, 10) = 7; point(20, 10) = 8;
            point(30, 10) = 9; point(40, 10) = 10; point(50, 10) = 11
            """;

    private final Runs runs = new Runs();

    public static void main(String[] args) {
        StrokesTest test = new StrokesTest();
        test.newObject();
        test.point();
        test.stroke();
        test.erase();
        test.partsAndOdd();
        test.fewest();
        test.plan();
        test.planIsThatOfNow();
        test.corners();
        test.meanLength();
        test.runs.end();
    }

    private void newObject() {
        runs.run("promise 1", """
                parts() = 0; odd() = 0; fewest() = 0; planned() = 0; bill() = 0; isSound() = true;
                checksum() = 6728; risk(0) = 0; seed(1) = 1; air(20) = 20; allow(9999) = 9999; dark(0, 0) = 0;
                points(0) = throws NoSuchElementException;
                length(0) = throws IndexOutOfBoundsException;
                load(0) = throws IndexOutOfBoundsException;
                stroke(0, 1) = throws IndexOutOfBoundsException;
                breach() = throws NoSuchElementException;
                filledShare() = throws NoSuchElementException;
                meanLength() = throws NoSuchElementException;
                hours(1) = 1
                """);
    }

    private void point() {
        runs.run("promise 2", """
                point(0, 99) = 0; point(99, 0) = 1; point(0, 0) = 2; point(99, 99) = 3;
                point(-1, 0) = throws IllegalArgumentException; point(100, 0) = throws IllegalArgumentException;
                point(0, -1) = throws IllegalArgumentException; point(0, 100) = throws IllegalArgumentException;
                point(2147483647, -2147483648) = throws IllegalArgumentException;
                point(0, 99) = throws UnsupportedOperationException;
                point(99, 99) = throws UnsupportedOperationException;
                point(98, 99) = 4; point(99, 98) = 5
                """);
        runs.run("promise 2, with 12 points", TWELVE_POINTS, """
                point(50, 10) = throws UnsupportedOperationException;
                point(51, 10) = throws IllegalStateException;
                point(50, 100) = throws IllegalArgumentException;
                stroke(0, 11) = 1; stroke(11, 12) = throws IndexOutOfBoundsException
                """);
    }

    private void stroke() {
        runs.run("promise 3", """
                point(0, 0); point(1, 0); point(2, 5);
                stroke(0, 1) = 1; stroke(2, 1) = 2;
                stroke(0, 3) = throws IndexOutOfBoundsException; stroke(3, 0) = throws IndexOutOfBoundsException;
                stroke(-1, 0) = throws IndexOutOfBoundsException; stroke(0, -1) = throws IndexOutOfBoundsException;
                stroke(3, 3) = throws IndexOutOfBoundsException; stroke(-1, -1) = throws IndexOutOfBoundsException;
                stroke(2147483647, 0) = throws IndexOutOfBoundsException;
                stroke(0, -2147483648) = throws IndexOutOfBoundsException;
                stroke(32, 0) = throws IndexOutOfBoundsException; stroke(0, 33) = throws IndexOutOfBoundsException;
                stroke(1, 1) = throws IllegalArgumentException;
                stroke(0, 1) = throws UnsupportedOperationException;
                stroke(1, 0) = throws UnsupportedOperationException;
                stroke(1, 2) = throws UnsupportedOperationException;
                stroke(0, 2) = 3
                """);
        runs.run("promise 3, with 18 strokes", TWELVE_POINTS, """
                stroke(0, 1) = 1; stroke(0, 2) = 2; stroke(0, 3) = 3; stroke(0, 4) = 4; stroke(0, 5) = 5;
                stroke(0, 6) = 6; stroke(0, 7) = 7; stroke(0, 8) = 8; stroke(0, 9) = 9; stroke(0, 10) = 10;
                stroke(0, 11) = 11; stroke(1, 2) = 12; stroke(1, 3) = 13; stroke(1, 4) = 14; stroke(1, 5) = 15;
                stroke(1, 6) = 16; stroke(1, 7) = 17; stroke(1, 8) = 18;
                stroke(1, 9) = throws IllegalStateException;
                stroke(8, 1) = throws UnsupportedOperationException;
                stroke(9, 9) = throws IllegalArgumentException;
                stroke(9, 12) = throws IndexOutOfBoundsException;
                odd() = 4; fewest() = 2; planned() = 2; points(0) = 17; through(1, 0) = 10;
                through(1, 1) = 0; through(1, 2) = 11; erase(1, 8) = 17; stroke(1, 9) = 18; stroke(1, 8) = throws IllegalStateException
                """);
    }

    private void erase() {
        runs.run("promise 4", """
                point(0, 0); point(10, 0); point(10, 10); stroke(0, 1); stroke(1, 2); stroke(2, 0);
                erase(0, 3) = throws IndexOutOfBoundsException; erase(3, 0) = throws IndexOutOfBoundsException;
                erase(-1, 1) = throws IndexOutOfBoundsException; erase(1, -1) = throws IndexOutOfBoundsException;
                erase(32, 1) = throws IndexOutOfBoundsException;
                erase(1, 1) = throws UnsupportedOperationException;
                erase(1, 0) = 2; erase(0, 1) = throws UnsupportedOperationException;
                erase(1, 0) = throws UnsupportedOperationException;
                points(0) = 3; erase(1, 2) = 1; erase(0, 2) = 0; planned() = 0; parts() = 0;
                stroke(0, 1) = 1; planned() = 1
                """);
    }

    private void partsAndOdd() {
        runs.run("promises 5 and 6", TWELVE_POINTS, """
                parts() = 0; odd() = 0;
                stroke(0, 1); parts() = 1; odd() = 2;
                stroke(3, 2); parts() = 2; odd() = 4;
                stroke(10, 11); parts() = 3; odd() = 6;
                stroke(11, 9); stroke(9, 10); parts() = 3; odd() = 4;
                stroke(3, 1); parts() = 2; odd() = 2;
                stroke(2, 10); parts() = 1; odd() = 2;
                stroke(10, 0); parts() = 1; odd() = 0;
                erase(10, 0); erase(2, 10); parts() = 2; odd() = 2
                """);
        runs.run("promise 5, a long part that winds through the numbers", TWELVE_POINTS, """
                stroke(0, 11); stroke(11, 1); stroke(1, 10); stroke(10, 2); stroke(2, 9); stroke(9, 3);
                stroke(3, 8); stroke(8, 4); stroke(4, 7); stroke(7, 5); stroke(5, 6);
                parts() = 1; odd() = 2; fewest() = 1; planned() = 1;
                erase(4, 8); parts() = 2; odd() = 4; fewest() = 2
                """);
    }

    private void fewest() {
        runs.run("promise 7", TWELVE_POINTS, """
                fewest() = 0; stroke(0, 1); stroke(1, 2); stroke(2, 0); odd() = 0; fewest() = 1; planned() = 1;
                stroke(3, 4); fewest() = 2; planned() = 2;
                stroke(4, 5); fewest() = 2; stroke(4, 9); odd() = 4; fewest() = 3; planned() = 3;
                stroke(4, 10); odd() = 4; fewest() = 3;
                stroke(4, 11); odd() = 6; fewest() = 4; planned() = 4;
                stroke(4, 2); parts() = 1; odd() = 6; fewest() = 3; planned() = 3
                """);
        runs.run("promises 7 and 8, a plan of more tubes than the fewest", TWELVE_POINTS, """
                stroke(0, 1); stroke(1, 2); stroke(2, 3); stroke(3, 4); stroke(4, 2);
                fewest() = 1; odd() = 2; planned() = 1;
                erase(2, 3); erase(3, 4); erase(4, 2); stroke(2, 5); stroke(5, 1); stroke(1, 7); stroke(7, 8);
                stroke(8, 1); odd() = 2; fewest() = 1; planned() = 1;
                stroke(0, 9); stroke(0, 11); stroke(9, 10); stroke(10, 11); odd() = 2; fewest() = 1;
                planned() = 2; points(0) = 8; points(1) = 5; through(1, 0) = 0; through(1, 3) = 11; isSound() = true
                """);
        runs.run("promise 8, a ring is left behind", """
                point(0, 0); point(10, 0); point(20, 0); point(20, 10); point(10, 10);
                stroke(0, 1); stroke(1, 2); stroke(1, 3); stroke(3, 4); stroke(4, 1);
                odd() = 2; fewest() = 1; planned() = 2; isSound() = true;
                points(0) = 3; through(0, 0) = 0; through(0, 1) = 1; through(0, 2) = 2;
                points(1) = 4; through(1, 0) = 1; through(1, 1) = 3; through(1, 2) = 4; through(1, 3) = 1;
                points(2) = throws NoSuchElementException
                """);
    }

    private void plan() {
        runs.run("promises 8 to 10", """
                point(0, 0); point(30, 0); point(30, 40); point(0, 40); point(60, 0);
                stroke(0, 1); stroke(1, 2); stroke(2, 0); stroke(0, 3); stroke(1, 4);
                planned() = 2; points(0) = 5; points(1) = 2;
                through(0, 0) = 0; through(0, 1) = 1; through(0, 2) = 2; through(0, 3) = 0; through(0, 4) = 3;
                through(1, 0) = 1; through(1, 1) = 4;
                points(-1) = throws NoSuchElementException; points(2) = throws NoSuchElementException;
                points(2147483647) = throws NoSuchElementException;
                points(-2147483648) = throws NoSuchElementException;
                through(0, -1) = throws NoSuchElementException; through(0, 5) = throws NoSuchElementException;
                through(1, -1) = throws NoSuchElementException; through(1, 2) = throws NoSuchElementException;
                through(2, 0) = throws NoSuchElementException; through(-1, 0) = throws NoSuchElementException;
                through(1, 2147483647) = throws NoSuchElementException;
                through(1, -2147483648) = throws NoSuchElementException;
                through(-1, 5) = throws NoSuchElementException;
                corners(2, true) = throws NoSuchElementException; corners(-1, false) = throws NoSuchElementException
                """);
        runs.run("the plan begins at the lowest odd point, then at the lowest one left", TWELVE_POINTS, """
                stroke(0, 1); stroke(1, 2); stroke(2, 0); stroke(9, 10); stroke(5, 7); stroke(7, 6); stroke(6, 5);
                planned() = 3; fewest() = 3;
                points(0) = 2; through(0, 0) = 9; through(0, 1) = 10;
                points(1) = 4; through(1, 0) = 0; through(1, 1) = 1; through(1, 2) = 2; through(1, 3) = 0;
                points(2) = 4; through(2, 0) = 5; through(2, 1) = 6; through(2, 2) = 7; through(2, 3) = 5
                """);
        runs.run("a plan of 18 strokes", TWELVE_POINTS, """
                stroke(0, 6); stroke(0, 7); stroke(0, 8); stroke(0, 9); stroke(0, 10); stroke(0, 11);
                stroke(1, 6); stroke(1, 7); stroke(1, 8); stroke(1, 9); stroke(1, 10); stroke(1, 11);
                stroke(2, 6); stroke(2, 7); stroke(2, 8); stroke(2, 9); stroke(2, 10); stroke(2, 11);
                odd() = 6; fewest() = 3; planned() = 3; isSound() = true;
                points(0) = 7; points(1) = 7; points(2) = 7;
                through(0, 0) = 6; through(0, 4) = 6; through(0, 6) = 7; through(2, 0) = 10; through(2, 6) = 11
                """);
    }

    private void planIsThatOfNow() {
        runs.run("the plan follows the strokes, tubes that are made do not", """
                point(0, 0); point(10, 0); point(10, 10); stroke(0, 1); make(0, 8) = 0; state(0) = b;
                stroke(1, 2); points(0) = 3; corners(0, false) = 1; make(0, 8) = 1; state(1) = s;
                length(0) = 10; length(1) = 20; erase(0, 1); erase(1, 2); planned() = 0;
                length(0) = 10; length(1) = 20; bend(1) = 0; make(0, 8) = throws NoSuchElementException
                """);
    }

    private void corners() {
        corner("straight on", "20, 0", 0, 0);
        corner("straight on, further", "95, 0", 0, 0);
        corner("a little to the left", "99, 1", 1, 0);
        corner("a right angle is not sharp", "10, 10", 1, 0);
        corner("a little more than a right angle", "9, 99", 1, 1);
        corner("a little less than a right angle", "11, 99", 1, 0);
        corner("wholly back", "5, 0", 1, 1);
        corner("back, a little beside", "0, 1", 1, 1);
        runs.run("promise 11, aslant", """
                point(50, 50); point(60, 60); point(50, 70); point(40, 80); point(44, 84); point(43, 85);
                stroke(0, 1); stroke(1, 2); stroke(2, 3); stroke(3, 4); stroke(4, 5);
                points(0) = 6; corners(0, false) = 3; corners(0, true) = 0
                """);
        runs.run("promise 11, the ends of a ring are no turn", """
                point(0, 0); point(10, 0); point(10, 10); point(0, 10);
                stroke(0, 1); stroke(1, 2); stroke(2, 3); stroke(3, 0);
                points(0) = 5; corners(0, false) = 3; corners(0, true) = 0
                """);
        runs.run("promise 11, a point that comes twice is a turn twice", """
                point(50, 50); point(40, 40); point(60, 40); point(60, 60); point(40, 60);
                stroke(0, 1); stroke(1, 2); stroke(2, 0); stroke(0, 3); stroke(3, 4); stroke(4, 0);
                points(0) = 7; through(0, 3) = 0; corners(0, false) = 5; corners(0, true) = 4
                """);
    }

    private void corner(String name, String last, int all, int sharp) {
        runs.run("promise 11, " + name, "point(0, 0); point(10, 0); stroke(0, 1)",
                "point(" + last + ") = 2; stroke(1, 2)",
                "points(0) = 3; corners(0, false) = " + all + "; corners(0, true) = " + sharp);
    }

    private void meanLength() {
        runs.run("promise 46", """
                point(0, 0); point(99, 99); meanLength() = throws NoSuchElementException;
                stroke(0, 1); meanLength() = 140.0; point(1, 1); stroke(0, 2); meanLength() = 70.5;
                point(3, 4); stroke(3, 0); meanLength() = 48.666666666666664; erase(1, 0); meanLength() = 3.0;
                point(2, 2); stroke(4, 0); meanLength() = 2.6666666666666665;
                erase(0, 2); erase(0, 3); erase(0, 4); meanLength() = throws NoSuchElementException
                """);
        runs.run("a stroke is cut to a whole length", """
                point(0, 0); point(1, 2); point(5, 5); stroke(0, 1); meanLength() = 2.0; stroke(1, 2);
                meanLength() = 3.5; make(0, 8) = 0; length(0) = 7
                """);
    }
}
