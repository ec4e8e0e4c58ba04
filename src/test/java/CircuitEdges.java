/** The edges of what the document says of circuits, programs and hours; promises 27 to 38. */
final class CircuitEdges {
    /** Filled tubes of 50, 20 and 9 with the numbers 0 to 2; with ten each, the loads 60, 30 and 19. */
    private static final String THREE = Lit.PLAN + Lit.neon(0, 0) + Lit.neon(1, 1) + Lit.neon(2, 2);
    /** A filled tube of 20 in a circuit that can be lit, which is off. */
    private static final String ONE = Lit.PLAN + Lit.neon(0, 1) + "circuit(30) = 0; join(0, 0) = 30;";
    private static final String NONE = " = throws IndexOutOfBoundsException;";
    private static final String NOT_SO = " = throws UnsupportedOperationException;";
    private static final String OUTSIDE = " = throws IllegalArgumentException;";

    private final Edges edges;

    CircuitEdges(Edges edges) {
        this.edges = edges;
    }

    void run() {
        circuits();
        rows();
        loads();
        letters();
        firstOfTheseLetters();
        programs();
        chases();
        seconds();
        overMidnight();
        litThen();
        mostHours();
        airs();
        refusedCircuits();
        refusedRows();
        refusedCauses();
        refusedNumbers();
    }

    private void circuits() {
        edges.term("At most 4 are numbered from 0,", """
                circuit(10) = 0; circuit(10) = 1; circuit(10) = 2; circuit(10) = 3;
                circuit(10) = throws IllegalStateException; load(3) = 0; load(4) = throws IndexOutOfBoundsException
                """);
        edges.term("each with a rating, 10 to 2000,", """
                circuit(9) = throws IllegalArgumentException; circuit(10) = 0; circuit(11) = 1; circuit(1999) = 2;
                circuit(2001) = throws IllegalArgumentException; circuit(2000) = 3
                """);
        // The shortest tube has a load of 11, too much for the least rating.
        edges.term("each with a rating, 10 to 2000,", Lit.PLAN, Lit.neon(0, 3), """
                circuit(10); join(0, 0) = 11; circuitIs(0) = o; part(0, 0); circuit(11); join(1, 0) = 11;
                circuitIs(1) = -
                """);
        // Tubes as long as they may be: 1500 is under four fifths of 2000, 1601 is not.
        edges.term("each with a rating, 10 to 2000,", Full.STROKES, allBent("make(0, 8)", 0), allBent("make(0, 8)", 1),
                allBent("make(0, 8)", 2), allBent("make(0, 8)", 3), """
                circuit(2000); join(0, 0) = 375; join(0, 1) = 750; join(0, 2) = 1125; circuitIs(0) = u; join(0, 3) = 1500;
                circuitIs(0) = u; make(1, 8); bend(4) = 0; put(4, false, 0); bombard(4, 400); pump(4, 60);
                fill(4, 'n', 12); join(0, 4) = 1601; circuitIs(0) = -
                """);
    }

    /** A tube of the full plan, filled. */
    private static String allBent(String make, int tube) {
        String number = String.valueOf(tube);
        return make + " = " + tube + ";" + ("bend(" + number + ");").repeat(14) + "put(" + number + ", false, 0);"
                + "bombard(" + number + ", 400); pump(" + number + ", 60); fill(" + number + ", 'n', 12);";
    }

    private void rows() {
        edges.term("and filled tubes in a row, each in one circuit at most.", THREE, """
                circuit(100); circuit(100); join(0, 0) = 60; join(0, 0) = throws UnsupportedOperationException;
                join(1, 0) = throws UnsupportedOperationException; join(1, 1) = 30; part(0, 0) = 0; join(1, 0) = 90;
                join(0, 0) = throws UnsupportedOperationException; isSound() = true
                """);
        edges.says(28, "Puts a tube into a circuit, as its last one.", THREE, """
                circuit(100); join(0, 2); join(0, 0); join(0, 1); part(0, 2); join(0, 2); smash(2); cause(0) = 2;
                smash(1); cause(0) = 1; smash(0); cause(0) = 0
                """);
    }

    private void loads() {
        String words = "Its load is the sum of lengths, and 10 for each tube.";
        edges.term(words, THREE, """
                circuit(100); load(0) = 0; join(0, 2) = 19; load(0) = 19; join(0, 1) = 49; join(0, 0) = 109;
                load(0) = 109; smash(0); load(0) = 109; part(0, 0) = 49; part(0, 2) = 30; part(0, 1) = 0; load(0) = 0
                """);
        StringBuilder ten = new StringBuilder();
        for (int tube = 0; tube < 10; tube++) {
            ten.append(Lit.neon(tube, 3)).append("join(0, ").append(tube).append(") = ").append(11 * tube + 11).append(";");
        }
        edges.term(words, Lit.PLAN, "circuit(110) = 0;", ten.toString(),
                "load(0) = 110; circuitIs(0) = -; part(0, 9) = 99; circuitIs(0) = -; part(0, 0) = 88; circuitIs(0) = -;",
                "part(0, 5) = 77; circuitIs(0) = u; make(3, 8) = throws IllegalStateException; filledShare() = 1.0");
    }

    private void letters() {
        String words = "A circuit is, by the first of these, 'e' without tubes, 'x' if one of it is broken, 'o' if the load "
                + "is above the rating, 'u' if it is less than four fifths of it, '-' otherwise;";
        // The ratings behind which a load of 30, 60 or 19 is no longer too much, and from which on it is too little.
        int[][] loads = {{1, 30, 30, 37}, {0, 60, 60, 75}, {2, 19, 19, 23}};
        for (int[] load : loads) {
            String tube = Lit.PLAN + Lit.neon(0, load[0]);
            String joined = "join(0, 0) = " + load[1] + "; circuitIs(0) = ";
            edges.term(words, tube, "circuit(" + (load[2] - 1) + "); circuitIs(0) = e;", joined + "o");
            edges.term(words, tube, "circuit(" + load[2] + "); circuitIs(0) = e;", joined + "-");
            edges.term(words, tube, "circuit(" + load[3] + "); circuitIs(0) = e;", joined + "-");
            edges.term(words, tube, "circuit(" + (load[3] + 1) + "); circuitIs(0) = e;", joined + "u");
        }
    }

    private void firstOfTheseLetters() {
        String words = "A circuit is, by the first of these,";
        edges.term(words, THREE, """
                circuit(29); join(0, 1); circuitIs(0) = o; smash(1); circuitIs(0) = x; part(0, 1); circuitIs(0) = e;
                circuit(61); circuit(150); join(2, 0); circuitIs(2) = u; smash(0); circuitIs(2) = x; join(1, 2);
                circuitIs(1) = u; hail(9) = 1; circuitIs(1) = x
                """);
        edges.term("it can be lit with '-' alone.", THREE, """
                circuit(30) = 0; circuit(59) = 1; circuit(24) = 2; circuit(100) = 3; join(0, 1); join(1, 0); join(2, 2);
                program(0, 0, true); program(1, 0, true); program(2, 0, true); program(3, 0, true);
                circuitIs(0) = -; circuitIs(1) = o; circuitIs(2) = u; circuitIs(3) = e; shows(0, 0) = true;
                shows(1, 0) = false; shows(2, 0) = false; shows(3, 0) = false; dark(0, 1); breach() = 0; hours(24) = 0;
                lit(0) = 0; lit(1) = 1; lit(2) = 0; smash(1); circuitIs(0) = x; shows(0, 0) = false;
                breach() = throws NoSuchElementException; hours(24) = 0; lit(1) = 1
                """);
    }

    private void programs() {
        String words = "A circuit has a program of 24 hours, all off at first, one for each hour of the day,";
        StringBuilder off = new StringBuilder("circuit(10); circuit(10);");
        for (int hour = 0; hour < 24; hour++) {
            off.append("program(0, ").append(hour).append(", false) = false;");
        }
        edges.term(words, off.toString(), "program(0, -1, true)" + OUTSIDE + "program(0, 24, true)" + OUTSIDE,
                "program(0, 0, true) = false; program(0, 23, true) = false; program(0, 0, true) = true",
                "program(0, 23, false) = true; program(1, 0, false) = false; program(0, 1, false) = false",
                "program(0, 22, false) = false; program(0, 23, true) = false");
        edges.term(words, ONE, Lit.programAll(0, true), "hours(24); lit(0) = 24; program(0, 23, false) = true;",
                "program(0, 0, false) = true; hours(24) = 0; lit(0) = 46; program(0, 12, false); hours(24); lit(0) = 67");
        edges.says(33, "- `hour`: 0 to 23", "circuit(10);", "program(0, 24, true)" + OUTSIDE + "program(0, -1, true)"
                + OUTSIDE + "program(0, 23, true) = false; program(0, 0, true) = false; program(0, 23, true) = true");
    }

    private void chases() {
        edges.term("and steps of a chase, 1 to 8, as bits, 1 for the first one, all on with one step at first.", ONE,
                "program(0, 0, true); shows(0, 0) = true; shows(0, 1) = true; shows(0, 2) = true; shows(0, 3599) = true;",
                "chase(0, 0, 0)" + OUTSIDE + "chase(0, 9, 0)" + OUTSIDE + "chase(0, 1, 0) = 1; shows(0, 0) = false;",
                "shows(0, 1) = false; chase(0, 8, 1) = 1; shows(0, 0) = true; shows(0, 7) = false; shows(0, 8) = true;",
                "chase(0, 8, 128) = 8; shows(0, 0) = false; shows(0, 7) = true; chase(0, 8, 255) = 8; shows(0, 6) = true;",
                "chase(0, 8, 254) = 8; shows(0, 0) = false; shows(0, 1) = true; chase(0, 8, 0) = 8; shows(0, 7) = false");
        edges.says(34, "- `steps`: 1 to 8", "circuit(10);", "chase(0, 0, 0)" + OUTSIDE + "chase(0, 9, 0)" + OUTSIDE
                + "chase(0, 8, 0) = 1; chase(0, 1, 0) = 8; chase(0, 2, 3) = 1; chase(0, 7, 127) = 2; chase(0, 1, 1) = 7");
        StringBuilder bits = new StringBuilder("circuit(10);");
        for (int steps = 1; steps <= 8; steps++) {
            int all = (1 << steps) - 1;
            bits.append("chase(0, " + steps + ", " + (all + 1) + ")" + OUTSIDE + "chase(0, " + steps + ", -1)" + OUTSIDE);
            bits.append("chase(0, " + steps + ", " + all + ") = " + Math.max(1, steps - 1) + ";");
            bits.append("chase(0, " + steps + ", 0) = " + steps + ";");
        }
        edges.thrown(34, "IllegalArgumentException", bits.toString(), "chase(0, 8, -2147483648)" + OUTSIDE
                + "chase(0, 8, 2147483647)" + OUTSIDE + "chase(0, -2147483648, 0)" + OUTSIDE + "chase(0, 2147483647, 0)"
                + OUTSIDE + "chase(0, 33, 1)" + OUTSIDE + "chase(0, 32, 0)" + OUTSIDE + "chase(0, 1, 1) = 8");
    }

    private void seconds() {
        String words = "In an hour that is on, it shows at the second s if it can be lit, and the step s modulo the steps is on.";
        edges.term(words, ONE, "shows(0, 0) = false; program(0, 0, true); shows(0, 0) = true; hours(1) = 1;",
                "shows(0, 0) = false; program(0, 1, true); shows(0, 0) = true; smash(0); shows(0, 0) = false");
        for (int steps = 1; steps <= 8; steps++) {
            int last = 1 << (steps - 1);
            boolean isLastOfHour = 3599 % steps == steps - 1;
            edges.term(words, ONE, "program(0, 0, true); chase(0, " + steps + ", " + last + ") = 1;",
                    "shows(0, 0) = " + (steps == 1) + "; shows(0, " + (steps - 1) + ") = true;",
                    "shows(0, " + steps + ") = " + (steps == 1) + "; shows(0, " + (2 * steps - 1) + ") = true;",
                    "shows(0, 3599) = " + isLastOfHour + "; hours(24); shows(0, " + (steps - 1) + ") = true");
        }
        edges.says(35, "- `second`: the second, from 0 to 3599", ONE, "program(0, 0, true); chase(0, 5, 16); shows(0, -1)"
                + OUTSIDE + "shows(0, 3600)" + OUTSIDE + "shows(0, 0) = false; shows(0, 3599) = true; shows(0, 3598) = false");
        edges.thrown(35, "IllegalArgumentException", ONE, "shows(0, -1)" + OUTSIDE + "shows(0, 3600)" + OUTSIDE
                + "shows(0, 2147483647)" + OUTSIDE + "shows(0, -2147483648)" + OUTSIDE + "shows(0, 3599) = false;",
                "program(0, 0, true); shows(0, 0) = true; shows(0, 3599) = true");
    }

    private void overMidnight() {
        String words = "In each hour that is on its tubes are lit for an hour, if it can be lit then.";
        // The hour of now is lit, that behind the last is not.
        edges.term(words, ONE, """
                program(0, 23, true); program(0, 0, true); program(0, 1, true); hours(1) = 1; lit(0) = 1; hours(1) = 2;
                lit(0) = 2; hours(21) = 23; lit(0) = 2; hours(1) = 0; lit(0) = 3; hours(1) = 1; lit(0) = 4;
                hours(22) = 23; lit(0) = 5; hours(3) = 2; lit(0) = 8; hours(24) = 2; lit(0) = 11; hours(23) = 1;
                lit(0) = 13; hours(25) = 2; lit(0) = 17
                """);
        edges.term(words, ONE, """
                program(0, 23, true); hours(23) = 23; lit(0) = 0; hours(1) = 0; lit(0) = 1; hours(23) = 23; lit(0) = 1;
                hours(2) = 1; lit(0) = 2; hours(47) = 0; lit(0) = 4; hours(48) = 0; lit(0) = 6; hours(999) = 15;
                lit(0) = 47; hours(9) = 0; lit(0) = 48
                """);
        edges.says(37, "Returns the hour of the day then, 0 at first.", """
                hours(24) = 0; hours(23) = 23; hours(1) = 0; hours(25) = 1; hours(22) = 23; hours(2) = 1; hours(47) = 0;
                hours(999) = 15; hours(999) = 6
                """);
        edges.says(35, "Tells whether a circuit shows at a second of the hour that is now.", ONE, """
                program(0, 23, true); shows(0, 0) = false; hours(22); shows(0, 0) = false; hours(1) = 23;
                shows(0, 0) = true; hours(1) = 0; shows(0, 0) = false; program(0, 0, true); shows(0, 0) = true;
                hours(24) = 0; shows(0, 0) = true; hours(23) = 23; shows(0, 0) = true
                """);
    }

    private void litThen() {
        String words = "In each hour that is on its tubes are lit for an hour, if it can be lit then.";
        edges.term(words, THREE, "circuit(110) = 0;", Lit.programAll(0, true), """
                join(0, 0); hours(1); lit(0) = 0; join(0, 1); circuitIs(0) = -; hours(1); lit(0) = 1; lit(1) = 1;
                join(0, 2); hours(1); lit(0) = 2; lit(1) = 2; lit(2) = 1; part(0, 0); circuitIs(0) = u; hours(9);
                lit(0) = 2; lit(1) = 2; lit(2) = 1; join(0, 0); smash(2); hours(9); lit(0) = 2; lit(1) = 2; lit(2) = 1;
                part(0, 2); hours(5); lit(0) = 7; lit(1) = 7; lit(2) = 1; program(0, 21, false); hours(24); lit(1) = 30
                """);
        edges.says(38, "Returns how many hours a tube was lit.", ONE, """
                lit(0) = 0; hours(24); lit(0) = 0; program(0, 5, true); hours(999); hours(999); lit(0) = 84; smash(0);
                hours(999); lit(0) = 84
                """);
    }

    private void mostHours() {
        edges.thrown(37, "IllegalStateException", Full.HOURS_BUT_ONE, """
                hours(2) = throws IllegalStateException; hours(999) = throws IllegalStateException; hours(1) = 15;
                hours(1) = throws IllegalStateException; hours(999) = throws IllegalStateException
                """);
        edges.says(37, "if there would be more than 99999 in all", ONE, "program(0, 14, true); program(0, 15, true);",
                Full.HOURS_BUT_ONE, """
                lit(0) = 8332; hours(2) = throws IllegalStateException; lit(0) = 8332; shows(0, 0) = true; hours(1) = 15;
                lit(0) = 8333; hours(1) = throws IllegalStateException; lit(0) = 8333; shows(0, 9) = true
                """);
        edges.says(37, "- `many`: how many, 1 to 999", """
                hours(0) = throws IllegalArgumentException; hours(1000) = throws IllegalArgumentException; hours(1) = 1;
                hours(999) = 16
                """);
        edges.thrown(37, "IllegalArgumentException", """
                hours(0) = throws IllegalArgumentException; hours(-1) = throws IllegalArgumentException;
                hours(1000) = throws IllegalArgumentException; hours(99999) = throws IllegalArgumentException;
                hours(2147483647) = throws IllegalArgumentException;
                hours(-2147483648) = throws IllegalArgumentException; hours(999) = 15; hours(1) = 16
                """);
    }

    private void airs() {
        edges.says(36, "Sets how warm the air is, 20 at first.", "air(20) = 20; air(20) = 20");
        edges.says(36, "- `degrees`: -40 to 40", """
                air(-41) = throws IllegalArgumentException; air(-40) = 20; air(-39) = -40; air(39) = -39; air(40) = 39;
                air(41) = throws IllegalArgumentException; air(0) = 40; air(20) = 0
                """);
        edges.thrown(36, "IllegalArgumentException", """
                air(-41) = throws IllegalArgumentException; air(41) = throws IllegalArgumentException;
                air(2147483647) = throws IllegalArgumentException;
                air(-2147483648) = throws IllegalArgumentException; air(40) = 20; air(-40) = 40
                """);
    }

    private void refusedCircuits() {
        edges.thrown(27, "IllegalArgumentException", """
                circuit(9) = throws IllegalArgumentException; circuit(2001) = throws IllegalArgumentException;
                circuit(0) = throws IllegalArgumentException; circuit(-10) = throws IllegalArgumentException;
                circuit(2147483647) = throws IllegalArgumentException;
                circuit(-2147483648) = throws IllegalArgumentException; circuit(10) = 0; circuit(2000) = 1
                """);
        edges.thrown(27, "IllegalStateException", Full.CIRCUITS, """
                circuit(10) = throws IllegalStateException; circuit(2000) = throws IllegalStateException;
                circuitIs(3) = e; circuitIs(4) = throws IndexOutOfBoundsException
                """);
        String[] calls = {"join(#, 0) = 60", "part(#, 1) = 0", "load(#) = 30", "circuitIs(#) = u", "cause(#) = 1",
                "program(#, 0, true) = false", "chase(#, 8, 255) = 1", "shows(#, 0) = false"};
        for (int i = 0; i < calls.length; i++) {
            String call = calls[i].substring(0, calls[i].indexOf(" ="));
            StringBuilder none = new StringBuilder();
            for (String circuit : new String[] {"4", "-1", "5", "2147483647", "-2147483648"}) {
                none.append(call.replace("#", circuit)).append(NONE);
            }
            // The third tube is free, the second one broken if a cause is asked for.
            int circuit = i == 0 ? 0 : 2;
            edges.thrown(28 + i, "IndexOutOfBoundsException", call.replace("#", "0") + NONE, THREE, call.replace("#", "0")
                    + NONE, Full.CIRCUITS, "join(2, 1) = 30;", i == 4 ? "smash(1);" : "", none.toString(),
                    calls[i].replace("#", String.valueOf(circuit)));
        }
        for (int promise = 28; promise <= 29; promise++) {
            String call = promise == 28 ? "join(1, " : "part(2, ";
            edges.thrown(promise, "IndexOutOfBoundsException", "circuit(10);", call.replace("1", "0").replace("2", "0")
                    + "0)" + NONE, THREE, "circuit(100); circuit(100); join(2, 0) = 60;", call + "3)" + NONE,
                    call + "-1)" + NONE, call + "10)" + NONE, call + "2147483647)" + NONE, call + "-2147483648)" + NONE,
                    promise == 28 ? "join(1, 2) = 19" : "part(2, 0) = 0");
        }
        edges.thrown(38, "IndexOutOfBoundsException", "lit(0)" + NONE, Full.TUBES, "lit(10)" + NONE + "lit(-1)" + NONE,
                "lit(2147483647)" + NONE + "lit(-2147483648)" + NONE + "lit(0) = 0; lit(9) = 0");
    }

    private void refusedRows() {
        edges.thrown(28, "UnsupportedOperationException", THREE, """
                point(1, 60); point(9, 60); point(9, 70); stroke(8, 9); stroke(9, 10); circuit(100); make(4, 8) = 3;
                join(0, 3) = throws UnsupportedOperationException; bend(3) = 0;
                join(0, 3) = throws UnsupportedOperationException; put(3, false, 0);
                join(0, 3) = throws UnsupportedOperationException; bombard(3, 400); pump(3, 60); fill(3, 'n', 12);
                smash(2); join(0, 2) = throws UnsupportedOperationException; join(0, 3) = 28;
                join(0, 3) = throws UnsupportedOperationException; smash(3);
                join(0, 3) = throws UnsupportedOperationException; part(0, 3) = 0;
                join(0, 3) = throws UnsupportedOperationException; join(0, 0) = 60
                """);
        edges.thrown(29, "UnsupportedOperationException", THREE, """
                circuit(100); circuit(100); part(0, 0) = throws UnsupportedOperationException; join(0, 0) = 60;
                part(1, 0) = throws UnsupportedOperationException; part(0, 1) = throws UnsupportedOperationException;
                smash(0); part(1, 0) = throws UnsupportedOperationException; part(0, 0) = 0;
                part(0, 0) = throws UnsupportedOperationException
                """);
    }

    private void refusedCauses() {
        edges.thrown(32, "NoSuchElementException", THREE, """
                circuit(100); circuit(100); cause(0) = throws NoSuchElementException; join(0, 0); join(0, 1); join(1, 2);
                cause(0) = throws NoSuchElementException; smash(2); cause(0) = throws NoSuchElementException;
                cause(1) = 2; smash(1); cause(0) = 1; part(0, 1); cause(0) = throws NoSuchElementException; smash(0);
                cause(0) = 0; part(0, 0); cause(0) = throws NoSuchElementException
                """);
    }

    private void refusedNumbers() {
        edges.thrown(33, "IllegalArgumentException", "circuit(10);", """
                program(0, -1, true) = throws IllegalArgumentException; program(0, 24, true) = throws IllegalArgumentException;
                program(0, 32, true) = throws IllegalArgumentException; program(0, 55, true) = throws IllegalArgumentException;
                program(0, 2147483647, true) = throws IllegalArgumentException;
                program(0, -2147483648, false) = throws IllegalArgumentException; program(0, 0, true) = false;
                program(0, 23, true) = false; program(0, -1, false) = throws IllegalArgumentException;
                program(0, 24, false) = throws IllegalArgumentException; program(0, 23, true) = true;
                program(0, 0, true) = true
                """);
        edges.says(30, "Returns the load of a circuit.", THREE, """
                circuit(10); load(0) = 0; join(0, 2) = 19; load(0) = 19; part(0, 2) = 0; load(0) = 0
                """);
        edges.says(31, "Returns 'e', 'x', 'o', 'u' or '-'.", THREE, """
                circuit(10); circuit(19); circuit(60); circuit(79); circuitIs(0) = e; join(0, 2); circuitIs(0) = o;
                part(0, 2); join(1, 2); circuitIs(1) = -; join(2, 1); circuitIs(2) = u; join(3, 0); circuitIs(3) = u;
                part(2, 1); join(3, 1) = 90; circuitIs(3) = o; smash(2); circuitIs(1) = x
                """);
    }
}
