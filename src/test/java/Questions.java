import java.util.ArrayList;
import java.util.List;

/**
 * Calls that together show the state of a sign; those that set something tell what was set before, and
 * behind those come such as bring to light what none tells: turns, leaks, powders, widths, numbers.
 */
final class Questions {
    static final List<String> ALL = all();

    private Questions() {
    }

    private static List<String> all() {
        List<String> calls = new ArrayList<>(List.of("parts()", "odd()", "fewest()", "planned()",
                "bill()", "checksum()", "filledShare()", "meanLength()", "isSound()", "breach()"));
        for (int point = 0; point < 12; point++) {
            // Two different exceptions tell whether there is such a point.
            calls.add("stroke(" + point + ", " + point + ")");
        }
        for (int tube = 0; tube < 4; tube++) {
            calls.add("points(" + tube + ")");
            calls.add("corners(" + tube + ", true)");
            calls.add("corners(" + tube + ", false)");
            for (int index = 0; index < 8; index++) {
                calls.add("through(" + tube + ", " + index + ")");
            }
        }
        for (int tube = 0; tube < 10; tube++) {
            for (String name : List.of("state", "lit", "colour", "gives")) {
                calls.add(name + "(" + tube + ")");
            }
            calls.add("gas(" + tube + ", false)");
            calls.add("gas(" + tube + ", true)");
            calls.add("mend(" + tube + ")");
        }
        for (int circuit = 0; circuit < 4; circuit++) {
            calls.add("load(" + circuit + ")");
            calls.add("circuitIs(" + circuit + ")");
            calls.add("cause(" + circuit + ")");
            calls.add("shows(" + circuit + ", 0)");
            calls.add("shows(" + circuit + ", 1)");
            calls.add("chase(" + circuit + ", 1, 1)");
            for (int hour = 0; hour < 24; hour++) {
                calls.add("program(" + circuit + ", " + hour + ", false)");
            }
        }
        calls.addAll(List.of("risk(0)", "seed(1)", "air(0)", "allow(0)", "dark(0, 0)", "hours(1)"));
        for (int tube = 0; tube < 10; tube++) {
            addFurthering(tube, calls);
        }
        for (int width = 25; width >= 8; width--) {
            calls.add("hail(" + width + ")");
        }
        calls.addAll(List.of("make(0, 8)", "circuit(10)", "point(77, 78)", "bill()", "checksum()"));
        return calls;
    }

    private static void addFurthering(int tube, List<String> calls) {
        calls.add("bend(" + tube + ")");
        calls.add("bend(" + tube + ")");
        calls.add("bill()");
        calls.add("bombard(" + tube + ", 300)");
        calls.add("bombard(" + tube + ", 300)");
        calls.add("pump(" + tube + ", 60)");
        calls.add("fill(" + tube + ", 'a', 12)");
    }
}
