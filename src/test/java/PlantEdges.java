/** The edges of what the document says of the plant and of light; promises 18 to 25. */
final class PlantEdges {
    /** A tube of 95 without turns, 12 wide, bent. */
    private static final String BENT = Full.LINE + "make(0, 12) = 0;";
    private static final String TIGHT = BENT + "put(0, false, 3) = 1000;";
    private static final String LEAKY = BENT + "put(0, true, 3) = 1000;";
    /** Without gas, and with 19 in the glass; the powder is not burnt. */
    private static final String PUMPED = TIGHT
            + "bombard(0, 300) = 1225; bombard(0, 300) = 1281; pump(0, 60) = 0; gas(0, true) = 19;";
    /** A tube of 20 with a turn, still straight. */
    private static final String STRAIGHT = """
            point(0, 0); point(10, 0); point(10, 10); stroke(0, 1); stroke(1, 2); make(0, 12) = 0;
            """;
    private static final String NONE = " = throws IndexOutOfBoundsException;";
    private static final String NOT_SO = " = throws UnsupportedOperationException;";

    private final Edges edges;

    PlantEdges(Edges edges) {
        this.edges = edges;
    }

    void run() {
        put();
        pumped();
        leaks();
        bombarded();
        burnt();
        mayBeFilled();
        colours();
        pressures();
        ages();
        cold();
        refusedNumbers();
        refusedStates();
        refusedTubes();
        refusedFills();
        notFilled();
    }

    private void put() {
        String words = "A bent tube is put on it with 1000 of gas in it and 300 in its glass.";
        edges.term(words, BENT, "put(0, false, 0) = 1000; gas(0, false) = 1000; gas(0, true) = 300; state(0) = p");
        edges.term(words, BENT, "put(0, true, 4) = 1000; gas(0, false) = 1000; gas(0, true) = 300; bill() = 10");
        edges.term(words, STRAIGHT, "put(0, false, 0)" + NOT_SO + "bend(0) = 0; put(0, false, 0) = 1000; put(0, true, 1)"
                + NOT_SO + "mend(0) = false");
        edges.says(18, "- `powder`: 0 to 4", BENT, "make(0, 8);",
                "put(0, false, -1) = throws IllegalArgumentException; put(0, false, 5) = throws IllegalArgumentException;",
                "put(0, false, 0) = 1000; put(1, false, 4) = 1000");
    }

    private void pumped() {
        edges.term("Pumped for 1 to 60 minutes,", TIGHT, """
                pump(0, 0) = throws IllegalArgumentException; pump(0, 61) = throws IllegalArgumentException;
                pump(0, -1) = throws IllegalArgumentException; bill() = 10; pump(0, 1) = 900; pump(0, 60) = 0;
                bill() = 20
                """);
        String words = "its gas is less by a tenth, rounded up, in each minute,";
        // 1000, 900, 810 and 590 have whole tenths, the others have not.
        edges.term(words, TIGHT, """
                pump(0, 1) = 900; pump(0, 1) = 810; pump(0, 1) = 729; pump(0, 1) = 656; pump(0, 1) = 590;
                pump(0, 1) = 531; pump(0, 1) = 477; gas(0, true) = 300
                """);
        // 12 in the end, then 10, 9 and so on, each less by the one that is begun.
        edges.term(words, TIGHT, """
                pump(0, 39) = 12; pump(0, 1) = 10; pump(0, 1) = 9; pump(0, 1) = 8; pump(0, 1) = 7; pump(0, 1) = 6;
                pump(0, 1) = 5; pump(0, 1) = 4; pump(0, 1) = 3; pump(0, 1) = 2; pump(0, 1) = 1; pump(0, 1) = 0;
                pump(0, 1) = 0; pump(0, 60) = 0; gas(0, false) = 0; gas(0, true) = 300
                """);
        edges.term(words, TIGHT, "pump(0, 49) = 1; pump(0, 1) = 0");
        edges.term(words, TIGHT, "bombard(0, 139) = 1104; pump(0, 1) = 993");
        edges.term(words, TIGHT, "bombard(0, 147) = 1110; pump(0, 1) = 999");
        edges.term(words, TIGHT, "bombard(0, 148) = 1111; pump(0, 1) = 999; pump(0, 1) = 899");
    }

    private void leaks() {
        String words = "and behind that 40 more in each if it leaks.";
        edges.term(words, LEAKY, "pump(0, 1) = 940; pump(0, 1) = 886; pump(0, 1) = 837; gas(0, true) = 300");
        edges.term(words, LEAKY, "pump(0, 2) = 886; pump(0, 1) = 837");
        edges.term(words, LEAKY, "pump(0, 60) = 400; pump(0, 1) = 400; pump(0, 60) = 400; mend(0) = true; pump(0, 1) = 360");
        edges.term(words, TIGHT, "mend(0) = false; pump(0, 1) = 900");
        edges.says(21, "Returns whether it leaked.", LEAKY, "mend(0) = true; mend(0) = false; pump(0, 1) = 900");
    }

    private void bombarded() {
        edges.term("Bombarded at 100 to 400 degrees,", TIGHT, """
                bombard(0, 99) = throws IllegalArgumentException; bombard(0, 401) = throws IllegalArgumentException;
                gas(0, true) = 300; bombard(0, 100) = 1075; bombard(0, 400) = 1300
                """);
        String words = "as much of what is in the glass as that times the degrees, divided by 400, cut, comes to the gas;";
        edges.term(words, TIGHT, "bombard(0, 100) = 1075; gas(0, true) = 225; bombard(0, 100) = 1131; gas(0, true) = 169");
        edges.term(words, TIGHT, "bombard(0, 101) = 1075; gas(0, true) = 225");
        edges.term(words, TIGHT, "bombard(0, 102) = 1076; gas(0, true) = 224");
        edges.term(words, TIGHT, "bombard(0, 103) = 1077; gas(0, true) = 223");
        edges.term(words, TIGHT, "bombard(0, 399) = 1299; gas(0, true) = 1; bombard(0, 399) = 1299; gas(0, true) = 1");
        edges.term(words, TIGHT, "bombard(0, 400) = 1300; gas(0, true) = 0; bombard(0, 400) = 1300; gas(0, true) = 0");
        edges.term("It is not bombarded if it leaks.", LEAKY,
                "bombard(0, 100)" + NOT_SO + "bombard(0, 400)" + NOT_SO + "gas(0, true) = 300; gas(0, false) = 1000;",
                "mend(0) = true; bombard(0, 400) = 1300");
        edges.term("and no tube is bombarded with a leak.", LEAKY,
                "bombard(0, 300)" + NOT_SO + "pump(0, 60) = 400; bombard(0, 300)" + NOT_SO + "gas(0, true) = 300; bill() = 15");
    }

    private void burnt() {
        String words = "above 300 its powder is burnt.";
        edges.term(words, TIGHT, "bombard(0, 300); bombard(0, 300); pump(0, 60); fill(0, 'n', 12) = 13; colour(0) = 13");
        edges.term(words, TIGHT, "bombard(0, 301); bombard(0, 300); pump(0, 60); fill(0, 'n', 12) = 10; colour(0) = 10");
        edges.term(words, TIGHT, "bombard(0, 300); bombard(0, 301); pump(0, 60); fill(0, 'a', 12) = 20; colour(0) = 20");
        edges.term(words, TIGHT, "bombard(0, 400); bombard(0, 100); pump(0, 60); fill(0, 'a', 12) = 20; colour(0) = 20");
        // A refused call burns nothing.
        edges.term(words, LEAKY, "bombard(0, 400)" + NOT_SO + "mend(0); bombard(0, 401) = throws IllegalArgumentException;",
                "bombard(0, 300); bombard(0, 300); pump(0, 60); fill(0, 'n', 12) = 13");
    }

    private void mayBeFilled() {
        edges.term("It is filled with neon 'n' or argon 'a',", PUMPED, """
                fill(0, 'm', 12) = throws IllegalArgumentException; fill(0, 'o', 12) = throws IllegalArgumentException;
                fill(0, 'b', 12) = throws IllegalArgumentException; fill(0, '`', 12) = throws IllegalArgumentException;
                fill(0, 'A', 12) = throws IllegalArgumentException; fill(0, 'N', 12) = throws IllegalArgumentException;
                fill(0, 'n', 12) = 13
                """);
        edges.term("It is filled with neon 'n' or argon 'a',", PUMPED, "fill(0, 'a', 12) = 23; state(0) = f");
        edges.term("at a pressure of 5 to 20,", PUMPED, """
                fill(0, 'n', 4) = throws IllegalArgumentException; fill(0, 'n', 21) = throws IllegalArgumentException;
                fill(0, 'n', 5) = 13; gives(0) = 65
                """);
        edges.term("at a pressure of 5 to 20,", PUMPED, "fill(0, 'a', 20) = 23; gives(0) = 60");
        String gas = "if its gas is 10 or less,";
        edges.term(gas, TIGHT, "bombard(0, 320) = 1240; pump(0, 60) = 0; bombard(0, 100) = 15; pump(0, 2) = 11;",
                "gas(0, true) = 45; fill(0, 'n', 12)" + NOT_SO + "bill() = 20; pump(0, 1) = 9; fill(0, 'n', 12) = 10");
        edges.term(gas, TIGHT, "bombard(0, 320) = 1240; pump(0, 40) = 14; fill(0, 'n', 12)" + NOT_SO,
                "pump(0, 1) = 12; fill(0, 'n', 12)" + NOT_SO + "state(0) = p; pump(0, 1) = 10; fill(0, 'n', 12) = 10");
        edges.term(gas, TIGHT, "bombard(0, 324) = 1243; gas(0, true) = 57; pump(0, 60) = 0; bombard(0, 100) = 14;",
                "pump(0, 1) = 12; pump(0, 1) = 10; fill(0, 'n', 12) = 10; bill() = 45");
        edges.term(gas, TIGHT, "bombard(0, 360) = 1270; pump(0, 60) = 0; bombard(0, 140) = 10; fill(0, 'n', 12) = 10");
        edges.term(gas, TIGHT, "bombard(0, 360) = 1270; pump(0, 60) = 0; bombard(0, 147) = 11; fill(0, 'n', 12)" + NOT_SO);
        String glass = "it has 60 or less in its glass,";
        edges.term(glass, TIGHT, "bombard(0, 320) = 1240; gas(0, true) = 60; pump(0, 60) = 0; fill(0, 'a', 12) = 20");
        edges.term(glass, TIGHT, "bombard(0, 319) = 1239; gas(0, true) = 61; pump(0, 60) = 0; fill(0, 'a', 12)" + NOT_SO
                + "bill() = 15; bombard(0, 100) = 15; pump(0, 60) = 0; fill(0, 'a', 12) = 20");
        edges.term(glass, TIGHT, "pump(0, 60) = 0; fill(0, 'a', 12)" + NOT_SO + "gas(0, true) = 300; gas(0, false) = 0");
        String leak = "and it does not leak.";
        edges.term(leak, LEAKY, "pump(0, 60) = 400; fill(0, 'n', 12)" + NOT_SO + "mend(0) = true; bombard(0, 320) = 640;",
                "pump(0, 60) = 0; gas(0, true) = 60; fill(0, 'n', 12) = 10");
    }

    private void colours() {
        String words = "The colour of a filled tube is told by its gas and powder, 0 none to 4, burnt powder counting as "
                + "none: 10 times 1 for neon, 2 for argon, and the powder, summed up.";
        for (int powder = 0; powder <= 4; powder++) {
            String mild = BENT + "put(0, false, " + powder + "); bombard(0, 300); bombard(0, 300); pump(0, 60);";
            String hot = BENT + "put(0, false, " + powder + "); bombard(0, 301); bombard(0, 301); pump(0, 60);";
            edges.term(words, mild, "fill(0, 'n', 12) = " + (10 + powder) + "; colour(0) = " + (10 + powder));
            edges.term(words, mild, "fill(0, 'a', 12) = " + (20 + powder) + "; colour(0) = " + (20 + powder));
            edges.term(words, hot, "fill(0, 'n', 12) = 10; colour(0) = 10");
            edges.term(words, hot, "fill(0, 'a', 12) = 20; colour(0) = 20");
        }
    }

    private void pressures() {
        String words = "What it gives is 100, less 5 for each by which the pressure is apart from 12,";
        int[][] lights = {{5, 65}, {6, 70}, {11, 95}, {12, 100}, {13, 95}, {14, 90}, {19, 65}, {20, 60}};
        for (int[] light : lights) {
            edges.term(words, PUMPED, "fill(0, 'n', " + light[0] + "); gives(0) = " + light[1]);
            edges.term(words, PUMPED, "fill(0, 'a', " + light[0] + "); gives(0) = " + light[1]);
        }
    }

    private void ages() {
        String words = "less 1 for each full 500 hours that it was lit,";
        String lit = Lit.PLAN + Lit.neon(0, 1) + "circuit(30); join(0, 0) = 30;" + Lit.programAll(0, true);
        edges.term(words, lit, """
                gives(0) = 100; hours(499); gives(0) = 100; hours(1); gives(0) = 99; hours(499); lit(0) = 999;
                gives(0) = 99; hours(1); gives(0) = 98; hours(500); gives(0) = 97
                """);
        // What is not lit does not age.
        edges.term(words, Lit.PLAN, Lit.neon(0, 1), "hours(999); hours(1); gives(0) = 100; lit(0) = 0");
        String least = "0 at least;";
        edges.term(least, lit, "hours(999);".repeat(49), """
                lit(0) = 48951; gives(0) = 3; hours(548); gives(0) = 2; hours(1); lit(0) = 49500; gives(0) = 1;
                hours(499); gives(0) = 1; hours(1); lit(0) = 50000; gives(0) = 0; hours(499); gives(0) = 0; hours(1);
                lit(0) = 50500; gives(0) = 0; hours(999); gives(0) = 0; dark(0, 23); breach() = throws NoSuchElementException
                """);
        edges.term(least, lit, "hours(999);".repeat(100), "hours(99) = 15; lit(0) = 99999; gives(0) = 0; air(-40); gives(0) = 0");
    }

    private void cold() {
        String words = "of argon half of that, cut, if the air is colder than 5 degrees.";
        int[][] lights = {{12, 100, 50}, {13, 95, 47}, {5, 65, 32}, {20, 60, 30}};
        for (int[] light : lights) {
            String argon = PUMPED + "fill(0, 'a', " + light[0] + ");";
            edges.term(words, argon, "air(5) = 20; gives(0) = " + light[1] + "; air(4) = 5; gives(0) = " + light[2],
                    "air(6) = 4; gives(0) = " + light[1] + "; air(-40) = 6; gives(0) = " + light[2],
                    "air(40) = -40; gives(0) = " + light[1] + "; air(0) = 40; gives(0) = " + light[2]);
            edges.term(words, PUMPED, "fill(0, 'n', " + light[0] + "); air(4); gives(0) = " + light[1] + "; air(-40);",
                    "gives(0) = " + light[1]);
        }
        // Half of 1 is none, and half of none too.
        edges.term(words, Lit.PLAN, Lit.filled(0, 1, 10, 'a', 20), "circuit(30); join(0, 0);", Lit.programAll(0, true),
                "hours(999);".repeat(29), "hours(529); lit(0) = 29500; gives(0) = 1; air(4); gives(0) = 0; air(5);",
                "gives(0) = 1; hours(500); gives(0) = 0; air(4); gives(0) = 0");
    }

    private void refusedNumbers() {
        edges.thrown(18, "IllegalArgumentException", BENT, """
                put(0, false, -1) = throws IllegalArgumentException; put(0, true, 5) = throws IllegalArgumentException;
                put(0, false, 2147483647) = throws IllegalArgumentException;
                put(0, true, -2147483648) = throws IllegalArgumentException; state(0) = b; put(0, false, 4) = 1000
                """);
        edges.thrown(19, "IllegalArgumentException", TIGHT, """
                pump(0, 0) = throws IllegalArgumentException; pump(0, 61) = throws IllegalArgumentException;
                pump(0, 2147483647) = throws IllegalArgumentException;
                pump(0, -2147483648) = throws IllegalArgumentException; bill() = 10; pump(0, 60) = 0
                """);
        edges.thrown(20, "IllegalArgumentException", TIGHT, """
                bombard(0, 99) = throws IllegalArgumentException; bombard(0, 401) = throws IllegalArgumentException;
                bombard(0, -100) = throws IllegalArgumentException; bombard(0, 2147483647) = throws IllegalArgumentException;
                bombard(0, -2147483648) = throws IllegalArgumentException; gas(0, true) = 300; bombard(0, 100) = 1075
                """);
        edges.thrown(23, "IllegalArgumentException", PUMPED, """
                fill(0, 'x', 12) = throws IllegalArgumentException; fill(0, 'n', 4) = throws IllegalArgumentException;
                fill(0, 'a', 21) = throws IllegalArgumentException; fill(0, 'x', 21) = throws IllegalArgumentException;
                fill(0, 'n', 2147483647) = throws IllegalArgumentException;
                fill(0, 'a', -2147483648) = throws IllegalArgumentException; bill() = 15; fill(0, 'a', 20) = 23
                """);
    }

    private void refusedStates() {
        edges.thrown(18, "UnsupportedOperationException", STRAIGHT, "put(0, false, 0)" + NOT_SO
                + "bend(0) = 0; put(0, false, 3) = 1000; put(0, true, 3)" + NOT_SO + "bombard(0, 300); bombard(0, 300);",
                "pump(0, 60); fill(0, 'n', 12) = 13; put(0, false, 3)" + NOT_SO + "smash(0); put(0, false, 3)" + NOT_SO);
        edges.thrown(19, "UnsupportedOperationException", inEachState("pump(0, 60)", "0"), "bill() = 44");
        edges.thrown(20, "UnsupportedOperationException", inEachState("bombard(0, 300)", "1300"), "bill() = 39");
        edges.thrown(20, "UnsupportedOperationException", LEAKY, "bombard(0, 300)" + NOT_SO
                + "mend(0); bombard(0, 300) = 1225");
        edges.thrown(21, "UnsupportedOperationException", inEachState("mend(0)", "false"), "bill() = 39");
        String glass = inEachState("gas(0, true)", "0").replace("UnsupportedOperation", "NoSuchElement");
        edges.thrown(22, "NoSuchElementException", glass);
        edges.thrown(22, "NoSuchElementException", glass.replace("true)", "false)").replace("= 0; pump", "= 1300; pump"));
        edges.says(22, "- `inGlass`: whether that in the glass", TIGHT, """
                gas(0, false) = 1000; gas(0, true) = 300; bombard(0, 200) = 1150; gas(0, false) = 1150;
                gas(0, true) = 150; pump(0, 60) = 0; gas(0, false) = 0; gas(0, true) = 150
                """);
    }

    /** A run in which a call that asks for a tube on the plant comes in each state of a tube. */
    private static String inEachState(String call, String answer) {
        return STRAIGHT + call + NOT_SO + "bend(0) = 0;" + call + NOT_SO + "put(0, false, 0); bombard(0, 400) = 1300;"
                + call + " = " + answer + "; pump(0, 60) = 0; fill(0, 'n', 12) = 10;" + call + NOT_SO + "smash(0);"
                + call + NOT_SO;
    }

    private void refusedTubes() {
        String[] calls = {"put(#, false, 0) = 1000", "pump(#, 1) = 900", "bombard(#, 400) = 1300", "mend(#) = false",
                "gas(#, true) = 300", "fill(#, 'n', 12) = 13", "colour(#) = 13", "gives(#) = 100"};
        for (int i = 0; i < calls.length; i++) {
            String call = calls[i].substring(0, calls[i].indexOf(" ="));
            String state = i == 0 ? BENT : i == 5 ? PUMPED : i > 5 ? PUMPED + "fill(0, 'n', 12);" : TIGHT;
            StringBuilder none = new StringBuilder();
            for (String tube : new String[] {"1", "-1", "9", "10", "2147483647", "-2147483648"}) {
                none.append(call.replace("#", tube)).append(NONE);
            }
            edges.thrown(18 + i, "IndexOutOfBoundsException", call.replace("#", "0") + NONE, state, none.toString(),
                    calls[i].replace("#", "0"));
        }
    }

    private void refusedFills() {
        edges.thrown(23, "UnsupportedOperationException", STRAIGHT, "fill(0, 'n', 12)" + NOT_SO + "bend(0);",
                "fill(0, 'n', 12)" + NOT_SO + "put(0, false, 0); fill(0, 'n', 12)" + NOT_SO + "bombard(0, 400);",
                "fill(0, 'n', 12)" + NOT_SO + "pump(0, 60); fill(0, 'a', 5) = 20; fill(0, 'n', 12)" + NOT_SO,
                "fill(0, 'a', 5)" + NOT_SO + "smash(0); fill(0, 'n', 12)" + NOT_SO + "bill() = 39");
        edges.says(23, "Returns its colour.", PUMPED, "fill(0, 'n', 5) = 13; colour(0) = 13");
    }

    private void notFilled() {
        for (int promise = 24; promise <= 25; promise++) {
            String call = promise == 24 ? "colour(0)" : "gives(0)";
            String none = call + " = throws NoSuchElementException;";
            edges.thrown(promise, "NoSuchElementException", STRAIGHT, none, "bend(0);", none, "put(0, false, 0);", none,
                    "bombard(0, 400); pump(0, 60);", none, "fill(0, 'n', 12);",
                    call + " = " + (promise == 24 ? 10 : 100) + "; smash(0);", none);
        }
    }
}
