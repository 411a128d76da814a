/** Promises 24 to 27 and 29: TELLING, NAMED, kinds, TRACE, how many. */
public final class KindsTest {
    public static void main(String[] args) {
        Due d = new Due("kinds");
        telling(d);
        naming(d);
        taking(d);
        wrapping(d);
        howMany(d);
        d.end();
    }

    private static int leave(int trace, int... numbers) {
        int now = trace;
        for (int number : numbers) {
            now = 31 * now + number;
        }
        return now;
    }

    private static void telling(Due d) {
        PillowRows x = Due.of("d;b31;t21;u11:u31;");
        d.due("not taken: no BOY", x.tell(0, 0), -1);
        d.due("not taken: no TRACE", x.trace(), 0);
        x = Due.of("d;b31;t21;u11:u31:b01:t01");
        int trace = 0;
        d.due("BOY", x.tell(0, 0), 3);
        trace = leave(trace, 1);
        d.due("TRACE of BOY", x.trace(), trace);
        d.due("TALL", x.tell(0, 1), 102);
        trace = leave(trace, 2, 1);
        d.due("TRACE of TALL", x.trace(), trace);
        d.due("BULLY", x.tell(0, 2), 102);
        trace = leave(trace, 3, 2, 1, 1);
        d.due("TRACE of BULLY", x.trace(), trace);
        d.due("BULLY of SIDE 1", x.tell(1, 0), 106);
        trace = leave(trace, 3, 2, 1, 1);
        d.due("BOY of SIDE 1", x.tell(1, 1), 0);
        trace = leave(trace, 1);
        d.due("TALL of SIDE 1", x.tell(1, 2), 100);
        trace = leave(trace, 2, 1);
        d.due("TRACE", x.trace(), trace);
        d.due("no BOY", x.tell(0, 3), -1);
        d.due("no BOY", x.tell(1, -1), -1);
        d.due("no SIDE", x.tell(2, 0), -1);
        d.due("no SIDE", x.tell(-1, 0), -1);
        d.due("a refusal leaves nothing", x.trace(), trace);
        Due.settle(x, "d;b31:b11");
        d.due("a new TEXT leaves TRACE", x.trace(), trace);
    }

    private static void naming(Due d) {
        PillowRows x = Due.of("d;u11;b31;t21:t31:u01");
        int trace = 0;
        d.due("BULLY", x.name(0, 0), 80);
        trace = leave(trace, 5);
        d.due("TRACE", x.trace(), trace);
        d.due("BOY", x.name(0, 1), 1);
        trace = leave(trace, 4);
        d.due("TALL", x.name(0, 2), 2);
        trace = leave(trace, 4);
        d.due("TALL of SIDE 1", x.name(1, 0), 0);
        trace = leave(trace, 4);
        d.due("BULLY of SIDE 1", x.name(1, 1), 80);
        trace = leave(trace, 5);
        x.order(0, 5);
        d.due("by number, not by place", x.name(0, 1), 1);
        trace = leave(trace, 4);
        d.due("TRACE", x.trace(), trace);
        d.due("no BOY", x.name(0, 3), -1);
        d.due("no BOY", x.name(1, 2), -1);
        d.due("no SIDE", x.name(2, 0), -1);
        d.due("a refusal leaves nothing", x.trace(), trace);
    }

    private static void taking(Due d) {
        PillowRows x = Due.of("d;b31;t21;u11:u31:t21:b31");
        int[][] due = {{1, -12, -12}, {1, 1, -12}, {1, 1, 1}};
        for (int k = 0; k < 3; k++) {
            for (int kind = 0; kind < 3; kind++) {
                d.due("as(0, " + k + ", " + kind + ")", x.as(0, k, kind), due[k][kind]);
                d.due("fault", x.fault(), due[k][kind] == 1 ? 0 : 2);
                d.due("as(1, " + (2 - k) + ", " + kind + ")", x.as(1, 2 - k, kind), due[k][kind]);
            }
        }
        x.as(0, 0, 1);
        d.due("UNKNOWN ahead of OUTSIDE", x.as(0, 3, 3), -1);
        d.due("fault of a refusal", x.fault(), 0);
        x.as(0, 0, 1);
        d.due("OUTSIDE", x.as(0, 0, 3), -2);
        d.due("fault of a refusal", x.fault(), 0);
        d.due("OUTSIDE", x.as(0, 0, -1), -2);
        d.due("no SIDE", x.as(2, 0, 0), -1);
        d.due("no TRACE of it", x.trace(), 0);
    }

    private static void wrapping(Due d) {
        PillowRows x = Due.of("d;u31:b11");
        int trace = 0;
        for (int k = 0; k < 20; k++) {
            x.tell(0, 0);
            trace = leave(trace, 3, 2, 1, 1);
            d.due("TRACE " + k, x.trace(), trace);
        }
    }

    private static void howMany(Due d) {
        PillowRows x = Due.of("d;b31;t21;u11:u31:t21");
        x.order(0, 4);
        x.order(1, 1);
        d.due("many(0)", x.many(0), 3);
        d.due("many(1)", x.many(1), 2);
        d.due("many(2)", x.many(2), 4);
        d.due("many(3)", x.many(3), 1);
        d.due("many(4)", x.many(4), -2);
        d.due("many(-1)", x.many(-1), -2);
        d.due("many of the least int", x.many(Integer.MIN_VALUE), -2);
    }
}
