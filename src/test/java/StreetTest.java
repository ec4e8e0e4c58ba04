/** Promises 39 to 45 and 47: the street, hail, bills and sums. */
public final class StreetTest {
    /** Two circuits that can be lit: the first gives 100, the second 50 and 50 more, as of argon in the cold. */
    private static final String TWO = Lit.PLAN + ";" + Lit.neon(0, 1)
            + Lit.filled(1, 2, 14, 'a', 12) + Lit.filled(2, 2, 13, 'a', 12)
            + "circuit(30) = 0; circuit(38) = 1; join(0, 0) = 30; join(1, 1) = 19; join(1, 2) = 38; air(4);";

    private final Runs runs = new Runs();

    public static void main(String[] args) {
        StreetTest test = new StreetTest();
        test.allow();
        test.dark();
        test.breachByLight();
        test.breachByLightOfThoseThatAreOn();
        test.breachInTheDark();
        test.breachAsAllIsNow();
        test.hail();
        test.bill();
        test.checksum();
        test.filledShare();
        test.isSound();
        test.runs.end();
    }

    private void allow() {
        runs.run("promise 39", """
                allow(0) = 9999; allow(9999) = 0; allow(10000) = throws IllegalArgumentException;
                allow(-1) = throws IllegalArgumentException; allow(7) = 9999;
                allow(2147483647) = throws IllegalArgumentException;
                allow(-2147483648) = throws IllegalArgumentException; allow(9999) = 7
                """);
    }

    private void dark() {
        runs.run("promise 40", """
                dark(23, 2) = 0; dark(24, 0) = throws IllegalArgumentException;
                dark(0, 24) = throws IllegalArgumentException; dark(-1, 0) = throws IllegalArgumentException;
                dark(0, -1) = throws IllegalArgumentException; dark(0, 23) = 554; dark(5, 5) = 23; dark(0, 0) = 125;
                dark(2147483647, 0) = throws IllegalArgumentException;
                dark(0, -2147483648) = throws IllegalArgumentException; dark(23, 23) = 0; dark(0, 1) = 575
                """);
    }

    private void breachByLight() {
        runs.run("promise 41, light", TWO, """
                breach() = throws NoSuchElementException; allow(0); breach() = throws NoSuchElementException;
                program(0, 20, true); breach() = 20; program(1, 10, true); breach() = 10;
                allow(99); breach() = 10; allow(100); breach() = throws NoSuchElementException;
                program(0, 10, true); breach() = 10; allow(199); breach() = 10; allow(200);
                breach() = throws NoSuchElementException; program(0, 0, true); program(1, 23, true); allow(99);
                breach() = 0; program(0, 0, false); breach() = 10
                """);
        runs.run("promise 41, a chase gives as much", TWO, """
                program(0, 5, true); chase(0, 4, 0); allow(99); breach() = 5; hours(6); breach() = 5
                """);
    }

    private void breachByLightOfThoseThatAreOn() {
        runs.run("promise 41, what cannot be lit gives nothing", TWO, """
                allow(0); program(0, 3, true); breach() = 3; smash(0); breach() = throws NoSuchElementException;
                program(1, 4, true); breach() = 4; part(1, 1) = 19; circuitIs(1) = u;
                breach() = throws NoSuchElementException; circuit(18) = 2; program(2, 6, true); join(2, 1);
                circuitIs(2) = o; breach() = throws NoSuchElementException; dark(0, 23);
                breach() = throws NoSuchElementException
                """);
    }

    private void breachInTheDark() {
        runs.run("promise 41, dark hours", TWO, Lit.programAll(0, true), """
                breach() = throws NoSuchElementException; dark(9, 10) = 0; breach() = 9; dark(9, 9);
                breach() = throws NoSuchElementException; dark(23, 0); breach() = 23; dark(23, 1); breach() = 0;
                dark(22, 5); breach() = 0; dark(1, 0); breach() = 1; dark(0, 23); breach() = 0; dark(0, 0);
                breach() = throws NoSuchElementException
                """);
        for (int hour = 0; hour < 24; hour++) {
            // One hour alone is on; from 5 until 8 it is dark, and then from 22 until 3.
            boolean inMorning = hour >= 5 && hour < 8;
            boolean atNight = hour >= 22 || hour < 3;
            runs.run("promise 41, the hour " + hour, TWO, "program(0, " + hour + ", true)",
                    "dark(5, 8); breach() = " + (inMorning ? hour : "throws NoSuchElementException"),
                    "dark(22, 3); breach() = " + (atNight ? hour : "throws NoSuchElementException"));
        }
    }

    private void breachAsAllIsNow() {
        runs.run("promise 41, as all is now", TWO, """
                program(1, 8, true); allow(100); breach() = throws NoSuchElementException; air(5) = 4; breach() = 8;
                air(4); program(0, 8, true); allow(199); breach() = 8; hours(508); lit(0) = 21; hours(999);
                breach() = 8; hail(13) = 1; breach() = throws NoSuchElementException; allow(99); breach() = 8
                """);
    }

    private void hail() {
        runs.run("promise 42", Lit.PLAN, Lit.filled(0, 1, 8, 'n', 12), Lit.filled(1, 1, 12, 'n', 12),
                Lit.filled(2, 1, 13, 'a', 12), Lit.filled(3, 1, 25, 'a', 12), """
                make(0, 25) = 4; make(0, 25) = 5; put(5, false, 0); circuit(60) = 0; join(0, 0); join(0, 2);
                hail(7) = throws IllegalArgumentException; hail(26) = throws IllegalArgumentException;
                hail(-8) = throws IllegalArgumentException; hail(25) = 0; hail(13) = 1; state(3) = x; hail(13) = 0;
                hail(12) = 1; state(2) = x; circuitIs(0) = x; cause(0) = 2; state(1) = f; hail(8) = 1; state(1) = x;
                hail(8) = 0; state(0) = f; state(4) = b; state(5) = p; filledShare() = 0.16666667
                """);
        runs.run("promise 42, many at once", Lit.PLAN, Lit.neon(0, 1), Lit.neon(1, 1), Lit.neon(2, 1),
                "hail(10) = 0; hail(9) = 3; hail(9) = 0; filledShare() = 0.0");
    }

    private void bill() {
        runs.run("promise 43", """
                bill() = 0; point(0, 0); point(20, 0); point(20, 21); stroke(0, 1); stroke(1, 2); bill() = 0;
                make(0, 9) = 0; bill() = 5; make(0, 9) = 1; bill() = 10; bend(0); bill() = 19; put(0, true, 1);
                bill() = 19; pump(0, 1); bill() = 24; pump(0, 60); bill() = 29; mend(0); bombard(0, 300);
                bombard(0, 300); bill() = 29; pump(0, 60); bill() = 34; fill(0, 'a', 12) = 21; bill() = 54;
                circuit(60); join(0, 0); hours(24); bill() = 54; smash(0); smash(1); bill() = 54; part(0, 0);
                bill() = 54; erase(0, 1); bill() = 54
                """);
    }

    private void checksum() {
        // 7 at first; ((7 * 31) + 0) * 31 + 1 without tubes and circuits.
        runs.run("promise 44", """
                checksum() = 6728; seed(2) = 1; checksum() = 6729; seed(2147483646) = 2; checksum() = 2147490373;
                seed(1); circuit(10) = 0; checksum() = 208538; point(0, 0); point(9, 0); stroke(0, 1);
                checksum() = 208538; make(0, 8) = 0
                """);
        // One tube, bent, of 9, not lit; one circuit without load; a bill of 1; z 1.
        long sum = ((7L * 31 + 'b') * 31 + 9) * 31;
        runs.run("promise 44, a tube and a circuit", "circuit(10); point(0, 0); point(9, 0); stroke(0, 1); make(0, 8)",
                "checksum() = " + (sum * 31 * 31 * 31 + 1 * 31 + 1), "risk(60); air(3); allow(4); dark(2, 3)",
                "program(0, 1, true); chase(0, 2, 3); hours(5); point(1, 1); stroke(0, 2); put(0, true, 3)",
                "checksum() = " + ((((7L * 31 + 'p') * 31 + 9) * 31 + 0) * 29791 + 31 + 1));
        // A lit tube with 20 and one that broke with 9; two circuits of 30 and of 19; a bill of 53; z 5.
        long lit = ((7L * 31 + 'f') * 31 + 20) * 31 + 6;
        long broken = ((lit * 31 + 'x') * 31 + 9) * 31;
        long circuits = (broken * 31 + 30) * 31 + 19;
        runs.run("promise 44, of all", Lit.PLAN, Lit.neon(0, 1), Lit.neon(1, 2), "circuit(30); circuit(19)",
                "join(0, 0); join(1, 1); program(0, 3, true)", "hours(144); smash(1); bill() = 53; seed(5)",
                "checksum() = " + ((circuits * 31 + 53) * 31 + 5));
        runs.run("promise 44, it may overflow", Lit.PLAN, Lit.neon(0, 0), Lit.neon(1, 0), Lit.neon(2, 0),
                Lit.neon(3, 0), Lit.neon(4, 0), "checksum() = " + ofFive());
    }

    private static long ofFive() {
        long sum = 7;
        for (int tube = 0; tube < 5; tube++) {
            sum = ((sum * 31 + 102) * 31 + 50) * 31;
        }
        return (sum * 31 + 150) * 31 + 1;
    }

    private void filledShare() {
        runs.run("promise 45", Lit.PLAN, "filledShare() = throws NoSuchElementException", Lit.neon(0, 1),
                "filledShare() = 1.0; make(0, 8); filledShare() = 0.5; make(0, 8); filledShare() = 0.33333334",
                Lit.neon(3, 1), "filledShare() = 0.5; put(1, false, 0); filledShare() = 0.5; make(0, 8)",
                Lit.neon(5, 1), Lit.neon(6, 1), "filledShare() = 0.5714286; smash(0); filledShare() = 0.42857143",
                "hail(8) = 3; filledShare() = 0.0");
    }

    private void isSound() {
        runs.run("promise 47", "isSound() = true", TWO, """
                isSound() = true; smash(1); isSound() = true; hail(8) = 2; isSound() = true; erase(0, 1);
                isSound() = true; stroke(1, 2); stroke(2, 0); stroke(0, 4); stroke(4, 7); stroke(4, 1);
                isSound() = true; planned() = 2; fewest() = 2; isSound() = true; planned() = 2
                """);
    }
}
