import java.math.BigInteger;

/** Promises 24 to 27 and 29 at their bounds: BOYS that are not there, kinds, TRACE that wraps, how many. */
public final class KindsBoundsTest {
    private static final int UNKNOWN = Bench.UNKNOWN, OUTSIDE = Bench.OUTSIDE, CAST = Bench.CAST;
    private static final String[] MADE = {"text 0 0 d;b31;t21;u11:u01:t01:b01:b11", "dorms 0 0 0 29", "tell 0 2"};

    public static void main(String[] args) {
        Due d = new Due("kinds at their bounds");
        Bench b = new Bench(d, MADE);
        numbers(b);
        leastAndMostTold(d);
        lastNames(d);
        asEachKind(b);
        traceOfARefusal(d);
        traceOfOtherCalls(d);
        wrapsAsAnInt(d);
        howMany(d);
        d.end();
    }

    private static void numbers(Bench b) {
        for (String call : new String[] {"tell ", "name "}) {
            b.bounds(call + "? 0", 0, 1, UNKNOWN);
            b.bounds(call + "0 ?", 0, 2, UNKNOWN);
            b.bounds(call + "1 ?", 0, 3, UNKNOWN);
        }
        b.bounds("as ? 0 0", 0, 1, UNKNOWN);
        b.bounds("as 0 ? 0", 0, 2, UNKNOWN);
        b.bounds("as 1 ? 0", 0, 3, UNKNOWN);
        b.bounds("as 0 2 ?", 0, 2, OUTSIDE);
        b.bounds("as 0 0 ?", 0, 2, OUTSIDE);
        b.bounds("many ?", 0, 3, OUTSIDE);
    }

    /** REACH 0 and 3 of each kind: what is told is the REACH, not what he REACHES. */
    private static void leastAndMostTold(Due d) {
        String[] kinds = {"b", "t", "u"};
        int[] least = {0, 100, 100};
        int[] most = {3, 103, 106};
        for (int kind = 0; kind < 3; kind++) {
            PillowRows x = Due.of("d;" + kinds[kind] + "01:" + kinds[kind] + "33");
            d.due("REACH 0 of kind " + kind, x.tell(0, 0), least[kind]);
            d.due("REACH 3 of kind " + kind, x.tell(1, 0), most[kind]);
        }
    }

    private static void lastNames(Due d) {
        PillowRows x = Due.of("d;b01;b01;b01;t01:u01:u01:u01:u01");
        x.order(0, 23);
        d.due("the first", x.name(0, 0), 0);
        d.due("the last", x.name(0, 3), 3);
        d.due("a BULLY, the first", x.name(1, 0), 80);
        d.due("a BULLY, the last", x.name(1, 3), 80);
        d.due("TRACE", x.trace(), ((4 * 31 + 4) * 31 + 5) * 31 + 5);
    }

    private static void asEachKind(Bench b) {
        int[][] boys = {{0, 0, 0}, {0, 1, 1}, {0, 2, 2}, {1, 0, 2}, {1, 1, 1}, {1, 2, 0}, {1, 3, 0}};
        for (int[] boy : boys) {
            for (int kind = 0; kind < 3; kind++) {
                String line = "as " + boy[0] + " " + boy[1] + " " + kind;
                if (kind <= boy[2]) {
                    b.gives(line, 1);
                } else {
                    b.faults(line, CAST);
                }
            }
        }
    }

    private static void traceOfARefusal(Due d) {
        PillowRows x = new Bench(d, MADE).fresh();
        int was = x.trace();
        d.holds("a TRACE is there", was != 0);
        for (String line : new String[] {"tell 0 3", "tell 2 0", "tell min 0", "name 0 -1", "name -1 0", "name 0 max"}) {
            d.due(line, Ask.of(x, line), UNKNOWN);
            d.due("TRACE behind " + line, x.trace(), was);
        }
    }

    /** But TELLING and NAMING leave numbers; a TEXT, one's own ORDER, a kind asked for leave none. */
    private static void traceOfOtherCalls(Due d) {
        PillowRows x = new Bench(d, MADE).fresh();
        int was = x.trace();
        String[] lines = {"as 0 2 1", "as 0 0 2", "ofBoy 0 2 3", "lands 0 0 0", "order 0 1", "odds 3 0 0", "best 0 2", "many 0",
            "fault", "trace", "dorms 0 0 0 29", "dorms 0 0 0 28", "lose 0"};
        for (String line : lines) {
            Ask.of(x, line);
            d.due("TRACE behind " + line, x.trace(), was);
        }
    }

    /** By whole numbers without a bound, cut to the 32 bits of an int; it is below 0 at times. */
    private static void wrapsAsAnInt(Due d) {
        PillowRows x = Due.of("d;u31;t21:b11");
        BigInteger trace = BigInteger.ZERO;
        boolean below = false;
        boolean beyond = false;
        int[][] leaves = {{3, 2, 1, 1}, {5}, {2, 1}, {4}, {1}};
        String[] calls = {"tell 0 0", "name 0 0", "tell 0 1", "name 0 1", "tell 1 0"};
        for (int k = 0; k < 100; k++) {
            Ask.of(x, calls[k % 5]);
            for (int number : leaves[k % 5]) {
                trace = trace.multiply(BigInteger.valueOf(31)).add(BigInteger.valueOf(number));
            }
            d.due("TRACE behind " + (k + 1) + " calls", x.trace(), trace.intValue());
            below = below || x.trace() < 0;
            beyond = beyond || trace.bitLength() > 31;
        }
        d.holds("it was below 0", below);
        d.holds("it was beyond an int", beyond);
    }

    private static void howMany(Due d) {
        Bench least = new Bench(d, "text 0 0 d;b01:b01", "dorms 0 0 0 9");
        Bench most = new Bench(d, "text 0 0 d;b01;b01;b01;b01:b01:b01:b01:b01", "dorms 0 0 0 33", "order 0 23", "order 1 23");
        int[] ofLeast = {1, 1, 0, 0};
        int[] ofMost = {4, 4, 23, 23};
        for (int what = 0; what < 4; what++) {
            least.gives("many " + what, ofLeast[what]);
            most.gives("many " + what, ofMost[what]);
        }
    }
}
