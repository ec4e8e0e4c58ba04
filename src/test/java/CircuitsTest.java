/** Promises 27 to 38: circuits, their loads and programs, the air and the hours. */
public final class CircuitsTest {
    /** Filled tubes of 50, 20 and 9 with the numbers 0 to 2; with ten each, the loads 60, 30 and 19. */
    private static final String THREE = Lit.PLAN + ";" + Lit.neon(0, 0) + Lit.neon(1, 1) + Lit.neon(2, 2);

    private final Runs runs = new Runs();

    public static void main(String[] args) {
        CircuitsTest test = new CircuitsTest();
        test.circuit();
        test.join();
        test.part();
        test.loadAndLetter();
        test.letterAtTheEdges();
        test.cause();
        test.program();
        test.chase();
        test.shows();
        test.air();
        test.hours();
        test.litNot();
        test.mostHours();
        test.ages();
        test.runs.end();
    }

    private void circuit() {
        runs.run("promise 27", """
                circuit(9) = throws IllegalArgumentException; circuit(2001) = throws IllegalArgumentException;
                circuit(-10) = throws IllegalArgumentException; circuit(10) = 0; circuit(2000) = 1;
                circuit(2147483647) = throws IllegalArgumentException; circuit(500) = 2; circuit(10) = 3;
                circuit(10) = throws IllegalStateException; circuit(9) = throws IllegalArgumentException;
                circuitIs(0) = e; circuitIs(3) = e; load(3) = 0; bill() = 0
                """);
    }

    private void join() {
        runs.run("promise 28", THREE, """
                circuit(100) = 0; circuit(100) = 1; make(0, 8) = 3; make(0, 8) = 4; put(4, false, 0) = 1000;
                join(2, 0) = throws IndexOutOfBoundsException; join(-1, 0) = throws IndexOutOfBoundsException;
                join(0, 5) = throws IndexOutOfBoundsException; join(0, -1) = throws IndexOutOfBoundsException;
                join(2147483647, 0) = throws IndexOutOfBoundsException;
                join(0, 3) = throws UnsupportedOperationException; join(0, 4) = throws UnsupportedOperationException;
                join(0, 1) = 30; join(0, 0) = 90; join(0, 0) = throws UnsupportedOperationException;
                join(1, 0) = throws UnsupportedOperationException; join(1, 2) = 19;
                join(0, 2) = throws UnsupportedOperationException; join(2, 0) = throws IndexOutOfBoundsException;
                part(0, 1) = 60; join(1, 1) = 49; smash(0) = true; part(0, 0) = 0;
                join(0, 0) = throws UnsupportedOperationException; bill() = 93
                """);
    }

    private void part() {
        runs.run("promise 29", THREE, """
                circuit(100) = 0; circuit(100) = 1; join(0, 0) = 60; join(0, 1) = 90; join(0, 2) = 109;
                part(2, 0) = throws IndexOutOfBoundsException; part(-1, 0) = throws IndexOutOfBoundsException;
                part(0, 3) = throws IndexOutOfBoundsException; part(0, -1) = throws IndexOutOfBoundsException;
                part(1, 0) = throws UnsupportedOperationException; part(0, 1) = 79;
                part(0, 1) = throws UnsupportedOperationException; part(0, 0) = 19; part(0, 2) = 0;
                part(0, 2) = throws UnsupportedOperationException; circuitIs(0) = e; join(1, 2) = 19;
                part(0, 2) = throws UnsupportedOperationException; part(1, 2) = 0
                """);
    }

    private void loadAndLetter() {
        runs.run("promises 30 and 31", THREE, """
                circuit(100) = 0; circuit(95) = 1;
                load(-1) = throws IndexOutOfBoundsException; load(2) = throws IndexOutOfBoundsException;
                circuitIs(-1) = throws IndexOutOfBoundsException; circuitIs(2) = throws IndexOutOfBoundsException;
                load(2147483647) = throws IndexOutOfBoundsException;
                load(0) = 0; circuitIs(0) = e; join(0, 0) = 60; load(0) = 60; circuitIs(0) = u;
                join(0, 1) = 90; load(0) = 90; circuitIs(0) = -; join(0, 2) = 109; load(0) = 109; circuitIs(0) = o;
                smash(2) = true; circuitIs(0) = x; load(0) = 109; part(0, 2) = 90; circuitIs(0) = -;
                part(0, 0) = 30; circuitIs(0) = u; smash(1) = true; circuitIs(0) = x; part(0, 1) = 0;
                circuitIs(0) = e; circuitIs(1) = e
                """);
    }

    private void letterAtTheEdges() {
        for (int rating = 10; rating <= 100; rating++) {
            // The load is 30: too much for 29, and four fifths of 37.5.
            String letter = rating < 30 ? "o" : rating > 37 ? "u" : "-";
            runs.run("promise 31, a load of 30 at " + rating, Lit.PLAN, Lit.neon(0, 1),
                    "circuit(" + rating + "); join(0, 0) = 30; circuitIs(0) = " + letter,
                    "program(0, 0, true); hours(1); lit(0) = " + (letter.equals("-") ? 1 : 0));
        }
        runs.run("promise 31, just four fifths", Lit.PLAN, Lit.neon(0, 0),
                "circuit(75); join(0, 0) = 60; circuitIs(0) = -; circuit(76); part(0, 0) = 0; join(1, 0) = 60",
                "circuitIs(1) = u; part(1, 0); circuit(59); join(2, 0); circuitIs(2) = o; part(2, 0)",
                "circuit(60); join(3, 0) = 60; circuitIs(3) = -");
    }

    private void cause() {
        runs.run("promise 32", THREE, """
                circuit(100) = 0; circuit(100) = 1; join(0, 2); join(0, 1); join(0, 0);
                cause(0) = throws NoSuchElementException; cause(1) = throws NoSuchElementException;
                cause(-1) = throws IndexOutOfBoundsException; cause(2) = throws IndexOutOfBoundsException;
                smash(0); cause(0) = 0; smash(2); cause(0) = 2; smash(1); cause(0) = 2; part(0, 2); cause(0) = 1;
                part(0, 1); cause(0) = 0; part(0, 0); cause(0) = throws NoSuchElementException
                """);
    }

    private void program() {
        runs.run("promise 33", """
                circuit(100) = 0; circuit(100) = 1;
                program(0, 0, true) = false; program(0, 23, true) = false; program(0, 0, true) = true;
                program(0, 1, false) = false; program(1, 0, false) = false; program(0, 0, false) = true;
                program(0, 0, true) = false; program(0, 23, false) = true; program(0, 23, false) = false;
                program(0, 24, true) = throws IllegalArgumentException;
                program(0, -1, true) = throws IllegalArgumentException;
                program(0, 32, true) = throws IllegalArgumentException;
                program(2, 24, true) = throws IndexOutOfBoundsException;
                program(-1, 0, true) = throws IndexOutOfBoundsException; program(0, 0, true) = true
                """);
    }

    private void chase() {
        runs.run("promise 34", """
                circuit(100) = 0; circuit(100) = 1;
                chase(0, 8, 255) = 1; chase(0, 8, 256) = throws IllegalArgumentException;
                chase(0, 7, 128) = throws IllegalArgumentException; chase(0, 7, 127) = 8; chase(0, 1, 0) = 7;
                chase(0, 1, 2) = throws IllegalArgumentException; chase(0, 2, 4) = throws IllegalArgumentException;
                chase(0, 1, -1) = throws IllegalArgumentException;
                chase(0, 8, -2147483648) = throws IllegalArgumentException;
                chase(0, 0, 0) = throws IllegalArgumentException; chase(0, 9, 0) = throws IllegalArgumentException;
                chase(0, 33, 1) = throws IllegalArgumentException; chase(0, -1, 0) = throws IllegalArgumentException;
                chase(2, 0, 0) = throws IndexOutOfBoundsException; chase(-1, 1, 1) = throws IndexOutOfBoundsException;
                chase(0, 3, 5) = 1; chase(1, 1, 1) = 1
                """);
    }

    private void shows() {
        runs.run("promise 35", Lit.PLAN, Lit.neon(0, 1), """
                circuit(30) = 0; shows(0, 0) = false; join(0, 0) = 30; shows(0, 0) = false; program(0, 1, true);
                shows(0, 0) = false; hours(1) = 1; shows(0, 0) = true; shows(0, 3599) = true;
                shows(0, -1) = throws IllegalArgumentException; shows(0, 3600) = throws IllegalArgumentException;
                shows(1, -1) = throws IndexOutOfBoundsException; shows(-1, 0) = throws IndexOutOfBoundsException;
                chase(0, 3, 5) = 1; shows(0, 0) = true; shows(0, 1) = false; shows(0, 2) = true; shows(0, 3) = true;
                shows(0, 4) = false; shows(0, 5) = true; shows(0, 3598) = false; shows(0, 3599) = true;
                chase(0, 8, 128) = 3; shows(0, 7) = true; shows(0, 15) = true; shows(0, 8) = false;
                shows(0, 3599) = true; chase(0, 2, 0) = 8; shows(0, 0) = false; shows(0, 1) = false;
                chase(0, 1, 1) = 2; shows(0, 1) = true; program(0, 1, false) = true; shows(0, 1) = false;
                program(0, 1, true); hours(1) = 2; shows(0, 1) = false; hours(23) = 1; shows(0, 1) = true;
                smash(0); shows(0, 1) = false
                """);
        runs.run("promise 35, what cannot be lit", Lit.PLAN, Lit.neon(0, 1), """
                circuit(29) = 0; circuit(38) = 1; program(0, 0, true); program(1, 0, true);
                join(0, 0) = 30; shows(0, 0) = false; part(0, 0); join(1, 0); shows(1, 0) = false
                """);
    }

    private void air() {
        runs.run("promise 36", """
                air(-40) = 20; air(40) = -40; air(41) = throws IllegalArgumentException;
                air(-41) = throws IllegalArgumentException; air(0) = 40; air(-2147483648) = throws IllegalArgumentException;
                air(5) = 0; air(2147483647) = throws IllegalArgumentException; air(20) = 5
                """);
    }

    private void hours() {
        runs.run("promise 37, exceptions", """
                hours(0) = throws IllegalArgumentException; hours(1000) = throws IllegalArgumentException;
                hours(-1) = throws IllegalArgumentException; hours(2147483647) = throws IllegalArgumentException;
                hours(1) = 1; hours(23) = 0; hours(24) = 0; hours(999) = 15; hours(10) = 1
                """);
        runs.run("promises 37 and 38, the hour of now counts, that then does not", Lit.PLAN, Lit.neon(0, 1), """
                circuit(30) = 0; join(0, 0); program(0, 3, true); lit(0) = 0; hours(3) = 3; lit(0) = 0; hours(1) = 4;
                lit(0) = 1; hours(23) = 3; lit(0) = 1; hours(24) = 3; lit(0) = 2; hours(25) = 4; lit(0) = 4;
                program(0, 23, true); program(0, 0, true); hours(19) = 23; lit(0) = 4; hours(2) = 1; lit(0) = 6;
                hours(47) = 0; lit(0) = 11; hours(240) = 0; lit(0) = 41;
                lit(1) = throws IndexOutOfBoundsException; lit(-1) = throws IndexOutOfBoundsException
                """);
        runs.run("promise 37, all tubes of all circuits that are on", THREE, "circuit(100) = 0; circuit(19) = 1",
                Lit.programAll(0, true), """
                join(0, 0); join(0, 1); join(1, 2); program(1, 7, true); hours(100) = 4; lit(0) = 100; lit(1) = 100;
                lit(2) = 4; part(0, 1) = 60; circuitIs(0) = u; hours(24) = 4; lit(0) = 100; lit(1) = 100; lit(2) = 5;
                join(0, 1); hours(999) = 19; lit(0) = 1099; lit(1) = 1099; lit(2) = 47; smash(1); hours(24) = 19;
                lit(0) = 1099; lit(1) = 1099; lit(2) = 48; bill() = 83
                """);
    }

    private void litNot() {
        runs.run("promise 38, a chase is lit all the hour", Lit.PLAN, Lit.neon(0, 1), """
                circuit(30) = 0; join(0, 0); program(0, 0, true); chase(0, 2, 0); hours(1); lit(0) = 1
                """);
        runs.run("promise 38, what cannot be lit is not", Lit.PLAN, Lit.neon(0, 1), """
                circuit(29) = 0; circuit(38) = 1; program(0, 0, true); program(1, 1, true); join(0, 0);
                hours(24); lit(0) = 0; part(0, 0); join(1, 0); hours(24); lit(0) = 0; part(1, 0); hours(24);
                lit(0) = 0; state(0) = f
                """);
    }

    private void mostHours() {
        runs.run("promise 37, 99999 hours at most", "hours(999);".repeat(100), """
                hours(100) = throws IllegalStateException; hours(1000) = throws IllegalArgumentException;
                hours(0) = throws IllegalArgumentException; hours(99) = 15; hours(1) = throws IllegalStateException;
                hours(0) = throws IllegalArgumentException
                """);
    }

    private void ages() {
        runs.run("promise 25, ages", Lit.PLAN, Lit.filled(0, 1, 10, 'a', 13), "circuit(30); join(0, 0);",
                Lit.programAll(0, true), """
                gives(0) = 95; hours(499); gives(0) = 95; hours(1); lit(0) = 500; gives(0) = 94; air(4) = 20;
                gives(0) = 47; hours(499); gives(0) = 47; hours(1); gives(0) = 46; air(5); gives(0) = 93
                """);
        runs.run("promise 25, it never gives less than none", Lit.PLAN, Lit.filled(0, 1, 10, 'n', 20),
                "circuit(30); join(0, 0);", Lit.programAll(0, true), "hours(999);".repeat(29), """
                lit(0) = 28971; gives(0) = 3; hours(528); lit(0) = 29499; gives(0) = 2; hours(1); gives(0) = 1;
                breach() = throws NoSuchElementException; dark(5, 6); breach() = 5; hours(499); gives(0) = 1;
                hours(1); lit(0) = 30000; gives(0) = 0; breach() = throws NoSuchElementException; hours(999);
                gives(0) = 0
                """);
    }
}
