/** Promises 11 to 14: BEST, SAFE, LIKELY by trying each ORDER with order(), WITHOUT by a TEXT without him. */
public final class OrdersTest {
    private static final long LOST = Long.MIN_VALUE;
    private static final long WHOLE = 1L << 48;
    private static final String[] TEXTS = {"d;b12;t21;u03:b33:t12", "d;b01;b31;u12:t11", "d;u01;b13;t22;b32:b21:u13:t02",
        "d;b21;b21;b21:b21:b21", "d;b11:u33:b01:t12:b22", "d;t13:u02"};

    public static void main(String[] args) {
        Due d = new Due("orders");
        byHand(d);
        for (String text : TEXTS) {
            byTrying(d, text);
        }
        refusals(d);
        without(d);
        d.end();
    }

    /** Behind one ROUND the far one in front lands by 3 quarters, the near one by 1. */
    private static void byHand(Due d) {
        PillowRows x = Due.of("d;b01;b31:b11");
        d.due("best(0, 0): of several the least", x.best(0, 0), 0);
        d.due("best(0, 1)", x.best(0, 1), 1);
        d.due("safe(0, 1)", x.safe(0, 1), 1);
        d.due("likely(0, 1, 1, 0)", x.likely(0, 1, 1, 0), 0);
        d.due("likely(0, 1, 0, 1)", x.likely(0, 1, 0, 1), 1);
        d.due("likely(0, 12, 4, 4): none at all", x.likely(0, 12, 4, 4), 0);
        d.due("the ORDER stays", x.many(2), 0);
        PillowRows y = Due.of("d;b11:b01:b31");
        d.due("best(1, 1)", y.best(1, 1), 1);
        d.due("likely(1, 1, 0, 1)", y.likely(1, 1, 0, 1), 0);
        d.due("likely(1, 1, 1, 0)", y.likely(1, 1, 1, 0), 1);
    }

    private static long won(PillowRows x, int side, int n) {
        return x.odds(n, side, 0) * (WHOLE / x.odds(n, side, 1));
    }

    private static long outs(PillowRows x, int n, int a, int b) {
        return x.seen(n, a, b, 0) * (WHOLE / x.seen(n, a, b, 1));
    }

    private static int orders(PillowRows x, int side) {
        int rows = 1;
        for (int k = 2; k <= x.many(side); k++) {
            rows *= k;
        }
        return rows;
    }

    /** An object is used for 512 calls at most: each row of tries takes one of its own. */
    private static PillowRows ordered(String text) {
        PillowRows x = Due.of(text);
        x.order(0, orders(x, 0) - 1);
        x.order(1, orders(x, 1) / 2);
        return x;
    }

    private static void byTrying(Due d, String text) {
        int[] rounds = {0, 1, 3, 7, 12};
        for (int side = 0; side < 2; side++) {
            for (int n : rounds) {
                PillowRows x = ordered(text);
                String call = "(" + side + ", " + n + ") of " + text;
                d.due("best" + call, x.best(side, n), bestByTrying(ordered(text), side, n, -1));
                d.due("likely" + call, x.likely(side, n, 1, 1), bestByTrying(ordered(text), side, n, 1));
                d.due("safe" + call, x.safe(side, n), safeByTrying(text, side, n));
                d.due("ORDER of 0 stays", x.many(2), orders(x, 0) - 1);
                d.due("ORDER of 1 stays", x.many(3), orders(x, 1) / 2);
            }
        }
    }

    private static int bestByTrying(PillowRows x, int side, int n, int out) {
        int found = 0;
        long most = -1;
        for (int v = 0; v < orders(x, side); v++) {
            x.order(side, v);
            long ways = out < 0 ? won(x, side, n) : outs(x, n, out, out);
            if (ways > most) {
                most = ways;
                found = v;
            }
        }
        return found;
    }

    private static int safeByTrying(String text, int side, int n) {
        int found = 0;
        long most = -1;
        int count = orders(Due.of(text), side);
        for (int v = 0; v < count; v++) {
            PillowRows x = Due.of(text);
            x.order(side, v);
            long least = Long.MAX_VALUE;
            for (int w = 0; w < orders(x, 1 - side); w++) {
                x.order(1 - side, w);
                least = Math.min(least, won(x, side, n));
            }
            if (least > most) {
                most = least;
                found = v;
            }
        }
        return found;
    }

    private static void refusals(Due d) {
        PillowRows x = Due.of("d;b01;b31:b11");
        d.due("best side", x.best(2, 13), -1);
        d.due("best side", x.best(-1, 0), -1);
        d.due("best n", x.best(0, 13), -2);
        d.due("best n", x.best(0, -1), -2);
        d.due("safe side", x.safe(2, 13), -1);
        d.due("safe n", x.safe(1, 13), -2);
        d.due("safe n", x.safe(1, -1), -2);
        d.due("likely side", x.likely(-1, 13, 5, 5), -1);
        d.due("likely n", x.likely(0, 13, 0, 0), -2);
        d.due("likely n", x.likely(0, -1, 0, 0), -2);
        d.due("likely a", x.likely(0, 0, 5, 0), -2);
        d.due("likely a", x.likely(0, 0, -1, 0), -2);
        d.due("likely b", x.likely(0, 0, 0, 5), -2);
        d.due("likely b", x.likely(0, 0, 0, -1), -2);
    }

    private static void without(Due d) {
        PillowRows x = Due.of("d;b12;t21;u03:b33:t12");
        PillowRows no1 = Due.of("d;b12;u03:b33:t12");
        x.order(0, 3);
        no1.order(0, 1);
        for (int n = 0; n <= 12; n++) {
            d.share("without(0, 1, " + n + ")", x.without(0, 1, n, 0), x.without(0, 1, n, 1), no1.odds(n, 0, 0),
                no1.odds(n, 0, 1));
        }
        d.due("the ORDER stays", x.many(2), 3);
        d.due("he is still there", x.many(0), 3);
        PillowRows no0 = Due.of("d;b12;t21;u03:t12");
        no0.order(0, 3);
        for (int n = 0; n <= 12; n++) {
            d.share("without(1, 0, " + n + ")", x.without(1, 0, n, 0), x.without(1, 0, n, 1), no0.odds(n, 1, 0),
                no0.odds(n, 1, 1));
        }
        d.due("no SIDE", x.without(2, 0, 0, 0), LOST);
        d.due("no SIDE", x.without(-1, 0, 0, 0), LOST);
        d.due("no BOY", x.without(0, 3, 0, 0), LOST);
        d.due("no BOY", x.without(1, 2, 0, 0), LOST);
        d.due("no BOY", x.without(1, -1, 0, 0), LOST);
        d.due("n", x.without(0, 0, 13, 0), LOST);
        d.due("n", x.without(0, 0, -1, 0), LOST);
        d.due("which", x.without(0, 0, 0, 2), LOST);
        d.due("which", x.without(0, 0, 0, -1), LOST);
        d.due("he is the only one", Due.of("d;b11:b11:b11").without(0, 0, 1, 0), LOST);
        d.due("the other one is not", Due.of("d;b11:b11:b11").without(1, 0, 1, 0), 1);
    }
}
