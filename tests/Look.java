import java.util.LinkedHashMap;
import java.util.Map;

/** All that can be seen of an object by calls, but fault(), which these calls change themselves. */
final class Look {
    private Look() {
    }

    static String at(PillowRows x) {
        return parts(x).toString();
    }

    /** Part by part: TRACE, SIDE 0, SIDE 1, SHEET 0 .. SHEET 3. */
    static Map<String, String> parts(PillowRows x) {
        Map<String, String> seen = new LinkedHashMap<>();
        seen.put("TRACE", Integer.toString(x.trace()));
        for (int side = 0; side < 2; side++) {
            seen.put("SIDE " + side, boysOf(x, side));
        }
        for (int k = 0; k < 4; k++) {
            seen.put("SHEET " + k, rowOf(x, k));
        }
        return seen;
    }

    private static String boysOf(PillowRows x, int side) {
        StringBuilder seen = new StringBuilder("ORDER ").append(x.many(2 + side)).append(':');
        for (int k = 0; k < x.many(side); k++) {
            seen.append(' ').append(x.ofBoy(side, k, 0)).append(x.ofBoy(side, k, 1)).append(x.ofBoy(side, k, 2));
            seen.append(" stands ").append(x.stands(side, k));
        }
        return seen.toString();
    }

    private static String rowOf(PillowRows x, int k) {
        StringBuilder seen = new StringBuilder();
        for (int lane = 0; lane < 3; lane++) {
            long cell = x.cell(k, 0, lane);
            // CAST tells that it is of another LANE, INDEX that it has a row of none
            seen.append(" lane ").append(lane).append(" fault ").append(x.fault());
            for (int i = 1; i <= 60 && cell != Long.MIN_VALUE; i++) {
                seen.append(' ').append(cell);
                cell = x.cell(k, i, lane);
            }
        }
        return seen.toString();
    }
}
