/** Promises 12 to 26: tubes as they are made, bent, pumped, bombarded, filled and broken. */
public final class TubesTest {
    /** A plan of a tube of 160 with a turn at a right angle and two sharp ones, and of one of 30 without turns. */
    private static final String PLAN = """
            point(0, 0); point(30, 0); point(30, 40); point(0, 40); point(60, 0);
            stroke(0, 1); stroke(1, 2); stroke(2, 0); stroke(0, 3); stroke(1, 4)
            """;
    /** One tube of 95 without turns, on the plant, 12 wide, with the powder 3. */
    private static final String ON_PLANT = """
            point(0, 0); point(95, 0); stroke(0, 1); make(0, 12) = 0; put(0, false, 3) = 1000
            """;
    private static final String PUMPED = ON_PLANT + ";bombard(0, 300) = 1225; bombard(0, 400) = 1300; pump(0, 60) = 0";

    private final Runs runs = new Runs();

    public static void main(String[] args) {
        TubesTest test = new TubesTest();
        test.make();
        test.lengthAndState();
        test.riskAndSeed();
        test.bend();
        test.bendBreaks();
        test.put();
        test.pump();
        test.bombard();
        test.mendAndGas();
        test.fill();
        test.mayBeFilled();
        test.colour();
        test.gives();
        test.smash();
        test.runs.end();
    }

    private void make() {
        runs.run("promise 12", PLAN, """
                planned() = 2;
                make(0, 8) = 0; make(1, 25) = 1; make(0, 8) = 2;
                make(0, 7) = throws IllegalArgumentException; make(0, 26) = throws IllegalArgumentException;
                make(0, -8) = throws IllegalArgumentException; make(2, 26) = throws IllegalArgumentException;
                make(-1, 7) = throws IllegalArgumentException;
                make(2, 8) = throws NoSuchElementException; make(-1, 25) = throws NoSuchElementException;
                make(2147483647, 8) = throws NoSuchElementException;
                make(1, 9) = 3; make(1, 9) = 4; make(1, 9) = 5; make(1, 9) = 6; make(1, 9) = 7; make(1, 9) = 8;
                make(1, 9) = 9; make(1, 9) = throws IllegalStateException;
                make(2, 9) = throws NoSuchElementException; make(1, 26) = throws IllegalArgumentException;
                smash(9) = false; make(1, 9) = throws IllegalStateException
                """);
        glass(1, 1);
        glass(9, 1);
        glass(10, 1);
        glass(11, 2);
        glass(90, 9);
        glass(91, 10);
        glass(99, 10);
    }

    private void glass(int length, int cost) {
        runs.run("glass for " + length, "point(0, 0); point(" + length + ", 0); stroke(0, 1)",
                "make(0, 9) = 0; length(0) = " + length + "; bill() = " + cost,
                "make(0, 25) = 1; bill() = " + 2 * cost + "; smash(0) = false; bill() = " + 2 * cost);
    }

    private void lengthAndState() {
        runs.run("promises 13 and 14", PLAN, """
                length(0) = throws IndexOutOfBoundsException; state(0) = throws IndexOutOfBoundsException;
                make(0, 8) = 0; length(0) = 160; state(0) = s; make(1, 8) = 1; length(1) = 30; state(1) = b;
                length(-1) = throws IndexOutOfBoundsException; length(2) = throws IndexOutOfBoundsException;
                state(-1) = throws IndexOutOfBoundsException; state(2) = throws IndexOutOfBoundsException;
                length(2147483647) = throws IndexOutOfBoundsException;
                state(-2147483648) = throws IndexOutOfBoundsException
                """);
        runs.run("promise 14, each letter", """
                point(0, 0); point(30, 0); point(30, 10); stroke(0, 1); stroke(1, 2);
                make(0, 8) = 0; state(0) = s; bend(0) = 0; state(0) = b; put(0, false, 0) = 1000; state(0) = p;
                bombard(0, 400) = 1300; pump(0, 60) = 0; fill(0, 'n', 12) = 10; state(0) = f;
                smash(0) = true; state(0) = x
                """);
    }

    private void riskAndSeed() {
        runs.run("promise 15", """
                risk(60) = 0; risk(61) = throws IllegalArgumentException; risk(-1) = throws IllegalArgumentException;
                risk(1) = 60; risk(0) = 1; risk(7) = 0; risk(2147483647) = throws IllegalArgumentException;
                risk(-2147483648) = throws IllegalArgumentException; risk(7) = 7
                """);
        runs.run("promise 16", """
                seed(2147483646) = 1; seed(0) = throws IllegalArgumentException;
                seed(2147483647) = throws IllegalArgumentException; seed(-1) = throws IllegalArgumentException;
                seed(1) = 2147483646; seed(5) = 1; seed(-2147483648) = throws IllegalArgumentException; seed(1) = 5
                """);
    }

    private void bend() {
        runs.run("promise 17", PLAN, """
                make(0, 12) = 0; corners(0, false) = 3; corners(0, true) = 2; bill() = 16;
                bend(1) = throws IndexOutOfBoundsException; bend(-1) = throws IndexOutOfBoundsException;
                bend(0) = 2; bill() = 28; seed(48271) = 48271; state(0) = s;
                bend(0) = 1; bill() = 45; seed(182605794) = 182605794; state(0) = s;
                bend(0) = 0; bill() = 62; seed(1) = 1291394886; state(0) = b;
                bend(0) = throws UnsupportedOperationException; bill() = 62; seed(1) = 1
                """);
        runs.run("promise 17, a draw is made whatever the risk", """
                point(0, 0); point(10, 0); point(10, 10); point(0, 10); point(0, 20); point(10, 20); stroke(0, 1);
                stroke(1, 2); stroke(2, 3); stroke(3, 4); stroke(4, 5); make(0, 25) = 0;
                bend(0) = 3; bend(0) = 2; bend(0) = 1; bend(0) = 0; bill() = 105; seed(1) = 1914720637;
                bend(0) = throws UnsupportedOperationException
                """);
        runs.run("promise 17, turns alone are bent, in their order", """
                point(0, 0); point(10, 0); point(30, 0); point(20, 0); point(20, 10); point(20, 20); point(0, 20);
                stroke(0, 1); stroke(1, 2); stroke(2, 3); stroke(3, 4); stroke(4, 5); stroke(5, 6);
                corners(0, false) = 3; corners(0, true) = 1; make(0, 10) = 0; bill() = 8; bend(0) = 2; bill() = 23;
                bend(0) = 1; bill() = 33; bend(0) = 0; bill() = 43
                """);
        runs.run("no turn, so it is bent", """
                point(0, 0); point(10, 0); point(20, 0); stroke(0, 1); stroke(1, 2); make(0, 8) = 0; state(0) = b;
                bend(0) = throws UnsupportedOperationException
                """);
    }

    private void bendBreaks() {
        // 1 makes 48271, 2 makes 96542, 5 makes 241355, and 2147483646 makes 2147435376.
        bendRight("the draw 71 at the risk 60", 1, 60, false);
        bendRight("the draw 42 at the risk 42", 2, 42, false);
        bendRight("the draw 42 at the risk 43", 2, 43, true);
        bendRight("the draw 55 at the risk 55", 5, 55, false);
        bendRight("the draw 55 at the risk 56", 5, 56, true);
        bendSharp("the draw 71 at the risk 35", 1, 35, false);
        bendSharp("the draw 71 at the risk 36", 1, 36, true);
        bendSharp("the draw 42 at the risk 21", 2, 21, false);
        bendSharp("the draw 42 at the risk 22", 2, 22, true);
        bendSharp("the draw 76 at the risk 38", 2147483646, 38, false);
        bendSharp("the draw 76 at the risk 39", 2147483646, 39, true);
        bendSharp("any draw at the risk 50", 2147483646, 50, true);
        runs.run("a break at the second of three turns", """
                point(0, 0); point(10, 0); point(10, 10); point(0, 10); point(0, 20); stroke(0, 1); stroke(1, 2);
                stroke(2, 3); stroke(3, 4); make(0, 10) = 0; bill() = 4; risk(60) = 0; seed(182605794) = 1;
                bend(0) = 2; bill() = 14;
                bend(0) = -1; bill() = 24; state(0) = x; seed(9) = 1914720637;
                bend(0) = throws UnsupportedOperationException; bill() = 24; seed(9) = 9;
                put(0, false, 0) = throws UnsupportedOperationException;
                smash(0) = throws UnsupportedOperationException; length(0) = 40
                """);
    }

    private void bendRight(String name, int z, int risk, boolean breaks) {
        bendOnce("a right angle, " + name, "point(10, 10)", 8, z, risk, breaks);
    }

    private void bendSharp(String name, int z, int risk, boolean breaks) {
        bendOnce("sharp, " + name, "point(0, 10)", 13, z, risk, breaks);
    }

    private void bendOnce(String name, String last, int minutes, int z, int risk, boolean breaks) {
        runs.run("promise 17, " + name, "point(0, 0); point(10, 0)", last,
                "stroke(0, 1); stroke(1, 2); make(0, 8) = 0; risk(" + risk + ") = 0; seed(" + z + ") = 1",
                "bend(0) = " + (breaks ? -1 : 0) + "; state(0) = " + (breaks ? "x" : "b"));
        String glass = last.equals("point(10, 10)") ? "2" : "3";
        runs.run("promise 17, bill and z of " + name, "point(0, 0); point(10, 0)", last,
                "stroke(0, 1); stroke(1, 2); bill() = 0; make(0, 8); bill() = " + glass,
                "risk(" + risk + "); seed(" + z + "); bend(0)",
                "bill() = " + (Integer.parseInt(glass) + minutes) + "; seed(1) = " + z * 48271L % 2147483647L);
    }

    private void put() {
        runs.run("promise 18", PLAN, """
                make(0, 8) = 0; put(0, false, 0) = throws UnsupportedOperationException;
                put(0, false, 5) = throws IllegalArgumentException; put(0, true, -1) = throws IllegalArgumentException;
                put(1, false, 5) = throws IndexOutOfBoundsException; put(-1, true, 0) = throws IndexOutOfBoundsException;
                bend(0); bend(0); bend(0); put(0, false, 5) = throws IllegalArgumentException; state(0) = b;
                put(0, true, 4) = 1000; state(0) = p; gas(0, false) = 1000; gas(0, true) = 300;
                put(0, false, 0) = throws UnsupportedOperationException; mend(0) = true;
                put(0, false, 2147483647) = throws IllegalArgumentException
                """);
        runs.run("promise 18, neither filled nor broken ones", PUMPED, """
                fill(0, 'n', 12); put(0, false, 0) = throws UnsupportedOperationException; smash(0) = true;
                put(0, false, 0) = throws UnsupportedOperationException
                """);
    }

    private void pump() {
        runs.run("promise 19", ON_PLANT, """
                bill() = 10; pump(0, 1) = 900; bill() = 15; pump(0, 2) = 729; bill() = 20; pump(0, 1) = 656;
                pump(0, 0) = throws IllegalArgumentException; pump(0, 61) = throws IllegalArgumentException;
                pump(0, -1) = throws IllegalArgumentException; pump(1, 61) = throws IndexOutOfBoundsException;
                pump(-1, 1) = throws IndexOutOfBoundsException;
                pump(0, 2147483647) = throws IllegalArgumentException;
                bill() = 25; pump(0, 60) = 0; pump(0, 1) = 0; bill() = 35; gas(0, true) = 300
                """);
        runs.run("promise 19, not of others", PLAN, """
                make(0, 8) = 0; pump(0, 1) = throws UnsupportedOperationException;
                pump(0, 61) = throws IllegalArgumentException; bend(0); bend(0); bend(0);
                pump(0, 1) = throws UnsupportedOperationException; bill() = 50
                """);
        runs.run("promise 19, with a leak", """
                point(0, 0); point(95, 0); stroke(0, 1); make(0, 12) = 0; put(0, true, 3) = 1000;
                pump(0, 1) = 940; pump(0, 1) = 886; pump(0, 8) = 607; pump(0, 60) = 400; pump(0, 60) = 400;
                mend(0) = true; pump(0, 1) = 360
                """);
        runs.run("promise 19, the last of the gas", ON_PLANT, """
                pump(0, 30) = 38; pump(0, 1) = 34; pump(0, 1) = 30; pump(0, 1) = 27; pump(0, 1) = 24; pump(0, 1) = 21;
                pump(0, 1) = 18; pump(0, 1) = 16; pump(0, 1) = 14; pump(0, 1) = 12; pump(0, 1) = 10; pump(0, 1) = 9;
                pump(0, 1) = 8; pump(0, 7) = 1; pump(0, 1) = 0; pump(0, 1) = 0
                """);
    }

    private void bombard() {
        runs.run("promise 20", ON_PLANT, """
                bombard(0, 100) = 1075; gas(0, true) = 225; bombard(0, 399) = 1299; gas(0, true) = 1;
                bombard(0, 399) = 1299; gas(0, true) = 1; bombard(0, 400) = 1300; gas(0, true) = 0;
                bombard(0, 400) = 1300; bill() = 10;
                bombard(0, 99) = throws IllegalArgumentException; bombard(0, 401) = throws IllegalArgumentException;
                bombard(0, -100) = throws IllegalArgumentException; bombard(1, 0) = throws IndexOutOfBoundsException;
                bombard(-1, 100) = throws IndexOutOfBoundsException
                """);
        runs.run("promise 20, what leaks is not bombarded", """
                point(0, 0); point(95, 0); stroke(0, 1); make(0, 12) = 0;
                bombard(0, 300) = throws UnsupportedOperationException; put(0, true, 3) = 1000;
                bombard(0, 300) = throws UnsupportedOperationException; bombard(0, 99) = throws IllegalArgumentException;
                gas(0, true) = 300; gas(0, false) = 1000; mend(0) = true; bombard(0, 300) = 1225
                """);
        powder("300 does not burn", "bombard(0, 300)", "23");
        powder("301 burns", "bombard(0, 301)", "20");
        powder("400 burns", "bombard(0, 400)", "20");
    }

    private void powder(String name, String call, String colour) {
        runs.run("promise 20, " + name, ON_PLANT, call, "bombard(0, 300); bombard(0, 300); pump(0, 60)",
                "fill(0, 'a', 12) = " + colour + "; colour(0) = " + colour);
    }

    private void mendAndGas() {
        runs.run("promises 21 and 22", """
                point(0, 0); point(9, 0); point(9, 9); stroke(0, 1); stroke(1, 2); make(0, 8) = 0;
                mend(0) = throws UnsupportedOperationException; gas(0, true) = throws NoSuchElementException;
                mend(1) = throws IndexOutOfBoundsException; mend(-1) = throws IndexOutOfBoundsException;
                gas(1, true) = throws IndexOutOfBoundsException; gas(-1, false) = throws IndexOutOfBoundsException;
                bend(0) = 0; mend(0) = throws UnsupportedOperationException;
                gas(0, false) = throws NoSuchElementException; put(0, true, 0) = 1000; mend(0) = true; mend(0) = false;
                gas(0, false) = 1000; gas(0, true) = 300; bombard(0, 200) = 1150; gas(0, false) = 1150;
                gas(0, true) = 150; bombard(0, 400); pump(0, 60) = 0; fill(0, 'a', 5) = 20;
                mend(0) = throws UnsupportedOperationException; gas(0, false) = throws NoSuchElementException;
                smash(0); gas(0, false) = throws NoSuchElementException;
                mend(0) = throws UnsupportedOperationException
                """);
    }

    private void fill() {
        runs.run("promise 23", PUMPED, """
                fill(0, 'n', 4) = throws IllegalArgumentException; fill(0, 'n', 21) = throws IllegalArgumentException;
                fill(0, 'N', 12) = throws IllegalArgumentException; fill(0, 'x', 12) = throws IllegalArgumentException;
                fill(0, 'm', 12) = throws IllegalArgumentException; fill(0, 'b', 12) = throws IllegalArgumentException;
                fill(1, 'x', 12) = throws IndexOutOfBoundsException; fill(-1, 'n', 4) = throws IndexOutOfBoundsException;
                bill() = 15; fill(0, 'n', 20) = 10; bill() = 35; state(0) = f;
                fill(0, 'n', 12) = throws UnsupportedOperationException;
                fill(0, 'x', 12) = throws IllegalArgumentException; bill() = 35; gives(0) = 60
                """);
        runs.run("promise 23, not of others", PLAN, """
                make(0, 8) = 0; fill(0, 'n', 12) = throws UnsupportedOperationException;
                fill(0, 'z', 12) = throws IllegalArgumentException; bend(0); bend(0); bend(0);
                fill(0, 'n', 12) = throws UnsupportedOperationException;
                fill(0, 'n', 21) = throws IllegalArgumentException; smash(0);
                fill(0, 'n', 12) = throws UnsupportedOperationException
                """);
        runs.run("promise 23, the least pressure of argon", PUMPED, "fill(0, 'a', 5) = 20; gives(0) = 65");
    }

    private void mayBeFilled() {
        runs.run("promise 23, 10 of gas", ON_PLANT, """
                bombard(0, 300) = 1225; gas(0, true) = 75; pump(0, 60) = 0; bombard(0, 100) = 18; gas(0, true) = 57;
                fill(0, 'n', 12) = throws UnsupportedOperationException; pump(0, 3) = 12;
                fill(0, 'n', 12) = throws UnsupportedOperationException; state(0) = p; pump(0, 1) = 10;
                fill(0, 'n', 12) = 13
                """);
        runs.run("promise 23, 11 of gas is too much", ON_PLANT, """
                bombard(0, 300) = 1225; bombard(0, 100) = 1243; gas(0, true) = 57; pump(0, 60) = 0;
                bombard(0, 100) = 14; gas(0, true) = 43; pump(0, 1) = 12; bombard(0, 100) = 22; pump(0, 5) = 11;
                gas(0, true) = 33; fill(0, 'n', 12) = throws UnsupportedOperationException; pump(0, 1) = 9;
                fill(0, 'n', 12) = 13
                """);
        runs.run("promise 23, 11 of gas", ON_PLANT, """
                bombard(0, 300) = 1225; bombard(0, 253) = 1272; gas(0, true) = 28; pump(0, 60) = 0;
                bombard(0, 158) = 11; gas(0, true) = 17; fill(0, 'n', 12) = throws UnsupportedOperationException;
                pump(0, 1) = 9; fill(0, 'n', 12) = 13
                """);
        runs.run("promise 23, 60 in the glass", ON_PLANT, """
                bombard(0, 300) = 1225; pump(0, 60) = 0; bombard(0, 100) = 18; pump(0, 60) = 0; gas(0, true) = 57;
                fill(0, 'a', 12) = 23
                """);
        runs.run("promise 23, 60 in the glass at once", ON_PLANT, """
                bombard(0, 320) = 1240; gas(0, true) = 60; pump(0, 60) = 0; fill(0, 'a', 12) = 20
                """);
        runs.run("promise 23, 61 in the glass is too much", ON_PLANT, """
                bombard(0, 319) = 1239; gas(0, true) = 61; pump(0, 60) = 0;
                fill(0, 'a', 12) = throws UnsupportedOperationException; bombard(0, 100) = 15; gas(0, true) = 46;
                pump(0, 60) = 0; fill(0, 'a', 12) = 20
                """);
        runs.run("promise 23, with a leak there is always gas left, without glass too", """
                point(0, 0); point(95, 0); stroke(0, 1); make(0, 12) = 0; put(0, true, 3) = 1000; pump(0, 60) = 400;
                pump(0, 60); gas(0, true) = 300; fill(0, 'a', 12) = throws UnsupportedOperationException
                """);
    }

    private void colour() {
        for (int powder = 0; powder <= 4; powder++) {
            String tube = "point(0, 0); point(95, 0); stroke(0, 1); make(0, 12) = 0; put(0, false, " + powder
                    + "); bombard(0, 300); bombard(0, 300); pump(0, 60)";
            runs.run("promise 24, neon and powder", tube,
                    "colour(0) = throws NoSuchElementException; fill(0, 'n', 12) = " + (10 + powder),
                    "colour(0) = " + (10 + powder));
            runs.run("promise 24, argon and powder", tube,
                    "fill(0, 'a', 12) = " + (20 + powder) + "; colour(0) = " + (20 + powder));
        }
        runs.run("promise 24, exceptions", PUMPED, """
                colour(0) = throws NoSuchElementException; colour(1) = throws IndexOutOfBoundsException;
                colour(-1) = throws IndexOutOfBoundsException; fill(0, 'n', 12) = 10; colour(0) = 10;
                smash(0); colour(0) = throws NoSuchElementException
                """);
    }

    private void gives() {
        int[] light = {65, 70, 75, 80, 85, 90, 95, 100, 95, 90, 85, 80, 75, 70, 65, 60};
        for (int pressure = 5; pressure <= 20; pressure++) {
            int full = light[pressure - 5];
            runs.run("promise 25, neon at " + pressure, PUMPED, "fill(0, 'n', " + pressure + ")",
                    "gives(0) = " + full + "; air(-40) = 20; gives(0) = " + full);
            runs.run("promise 25, argon at " + pressure, PUMPED, "fill(0, 'a', " + pressure + ")",
                    "gives(0) = " + full + "; air(5) = 20; gives(0) = " + full,
                    "air(4) = 5; gives(0) = " + full / 2 + "; air(-40) = 4; gives(0) = " + full / 2,
                    "air(40) = -40; gives(0) = " + full);
        }
        runs.run("promise 25, exceptions", PUMPED, """
                gives(0) = throws NoSuchElementException; gives(1) = throws IndexOutOfBoundsException;
                gives(-1) = throws IndexOutOfBoundsException; fill(0, 'n', 12) = 10; gives(0) = 100;
                smash(0); gives(0) = throws NoSuchElementException
                """);
    }

    private void smash() {
        runs.run("promise 26", PLAN, """
                smash(0) = throws IndexOutOfBoundsException; make(0, 8) = 0; make(0, 8) = 1; make(0, 8) = 2;
                make(1, 8) = 3; bend(1); bend(1); bend(1); bend(2); bend(2); bend(2); put(2, false, 0);
                put(3, false, 0); bombard(3, 400); pump(3, 60); fill(3, 'n', 12);
                smash(-1) = throws IndexOutOfBoundsException; smash(4) = throws IndexOutOfBoundsException;
                smash(0) = false; smash(1) = false; smash(2) = false; smash(3) = true;
                state(0) = x; state(1) = x; state(2) = x; state(3) = x;
                smash(0) = throws UnsupportedOperationException; smash(3) = throws UnsupportedOperationException;
                lit(3) = 0; filledShare() = 0.0; length(3) = 30
                """);
    }
}
