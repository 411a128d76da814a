/** Promises 11 to 14 at their bounds: of several the least number, the first and the last ORDER, the only BOY. */
public final class OrdersBoundsTest {
    private static final long LOST = Bench.LOST;
    private static final int UNKNOWN = Bench.UNKNOWN, OUTSIDE = Bench.OUTSIDE;
    private static final long WHOLE = 1L << 48;

    public static void main(String[] args) {
        Due d = new Due("orders at their bounds");
        numbers(new Bench(d, "text 0 0 d;b12;t21;u03:b33:t12", "dorms 0 0 0 21", "order 0 3", "order 1 1"));
        ofSeveralTheLeast(d);
        allAlike(d);
        neverSeen(d);
        theLastOrder(d);
        theOtherOnesAsItIs(d);
        safeByTheLeast(d);
        theOnlyOne(d);
        oneOfTwo(d);
        theOthersInTheirOrder(d);
        d.end();
    }

    private static void numbers(Bench b) {
        b.bounds("best ? 0", 0, 1, UNKNOWN);
        b.bounds("best 0 ?", 0, 12, OUTSIDE);
        b.bounds("best 1 ?", 0, 12, OUTSIDE);
        b.bounds("safe ? 0", 0, 1, UNKNOWN);
        b.bounds("safe 0 ?", 0, 12, OUTSIDE);
        b.bounds("safe 1 ?", 0, 12, OUTSIDE);
        b.bounds("likely ? 0 0 0", 0, 1, UNKNOWN);
        b.bounds("likely 0 ? 0 0", 0, 12, OUTSIDE);
        b.bounds("likely 0 12 ? 0", 0, 4, OUTSIDE);
        b.bounds("likely 1 12 0 ?", 0, 4, OUTSIDE);
        b.bounds("without ? 0 0 0", 0, 1, LOST);
        b.bounds("without 0 ? 0 0", 0, 2, LOST);
        b.bounds("without 1 ? 0 0", 0, 1, LOST);
        b.bounds("without 1 1 ? 0", 0, 12, LOST);
        b.bounds("without 1 1 12 ?", 0, 1, LOST);
    }

    /** Behind one ROUND he alone counts who stands first: of 2, 3, 4, 5 (or 0, 1) alike the least. */
    private static void ofSeveralTheLeast(Due d) {
        Bench of0 = Bench.fight(d, "d;b01;b31;b31:b11", "order 0 5");
        of0.gives("best 0 1", 2);
        of0.gives("safe 0 1", 2);
        of0.gives("likely 0 1 0 1", 2);
        of0.gives("likely 0 1 1 0", 0);
        Bench of1 = Bench.fight(d, "d;b11:b01:b31:b31", "order 1 4");
        of1.gives("best 1 1", 2);
        of1.gives("safe 1 1", 2);
        of1.gives("likely 1 1 1 0", 2);
        of1.gives("likely 1 1 0 1", 0);
        Bench last = Bench.fight(d, "d;b01;b01;b31:b11", "order 0 1");
        last.gives("best 0 1", 4);
        last.gives("safe 0 1", 4);
        last.gives("likely 0 1 0 1", 4);
    }

    private static void allAlike(Due d) {
        Bench alike = Bench.fight(d, "d;t12;t12;t12;t12:b21:b21:b21", "order 0 23", "order 1 5");
        Bench none = Bench.fight(d, "d;b12;t21;u03:b33:t12", "order 0 4", "order 1 1");
        for (int side = 0; side < 2; side++) {
            for (int n : new int[] {0, 1, 12}) {
                alike.gives("best " + side + " " + n, 0);
                alike.gives("safe " + side + " " + n, 0);
                alike.gives("likely " + side + " " + n + " 1 1", 0);
            }
            none.gives("best " + side + " 0", 0);
            none.gives("safe " + side + " 0", 0);
            none.gives("likely " + side + " 0 0 0", 0);
            none.gives("likely " + side + " 0 1 0", 0);
        }
    }

    /** More OUT than there are, or than ROUNDS: by none of the ORDERS more likely than by the first. */
    private static void neverSeen(Due d) {
        Bench b = Bench.fight(d, "d;b12;t21;u03:b33:t12", "order 0 4", "order 1 1");
        b.gives("likely 0 12 4 4", 0);
        b.gives("likely 0 12 4 0", 0);
        b.gives("likely 1 12 0 3", 0);
        b.gives("likely 1 1 2 2", 0);
    }

    private static void theLastOrder(Due d) {
        String text = "d;b01;b33;u22;u03:u02:b11:t22";
        String turned = "d;u02;b11;t22:b01:b33:u22:u03";
        isMostByAll(d, text, 0);
        isMostByAll(d, turned, 1);
        Bench.fight(d, text).gives("best 0 12", 23);
        Bench.fight(d, text).gives("safe 0 12", 23);
        Bench.fight(d, turned).gives("best 1 12", 23);
        Bench.fight(d, turned).gives("safe 1 12", 23);
        Bench.fight(d, "d;b02;u33;u01;b21:t23").gives("likely 0 8 2 1", 23);
    }

    private static long won(PillowRows x, int side, int n) {
        return x.odds(n, side, 0) * (WHOLE / x.odds(n, side, 1));
    }

    /** That each ORDER ahead of 23 is less likely to have WON, so that 23 is due. */
    private static void isMostByAll(Due d, String text, int side) {
        PillowRows x = Due.of(text);
        x.order(side, 23);
        long most = won(x, side, 12);
        for (int v = 0; v < 23; v++) {
            x.order(side, v);
            d.holds("ORDER " + v + " is less than 23 of " + text, won(x, side, 12) < most);
        }
    }

    /** BEST and LIKELY look at the other one's ORDER as it is, SAFE at all of them; none looks at one's own. */
    private static void theOtherOnesAsItIs(Due d) {
        String text = "d;t33;u11;u12;t22:t03:u11:u33:t21";
        long safest = Ask.of(Due.of(text), "safe 0 7");
        boolean differs = false;
        long first = Ask.of(Due.of(text), "best 0 7");
        for (int w = 0; w < 24; w++) {
            PillowRows x = Due.of(text);
            x.order(1, w);
            long best = x.best(0, 7);
            differs = differs || best != first;
            d.due("safe against ORDER " + w, x.safe(0, 7), safest);
            x.order(0, w);
            d.due("best from ORDER " + w, x.best(0, 7), best);
            d.due("safe from ORDER " + w, x.safe(0, 7), safest);
            d.due("ORDER of SIDE 0 stays", x.many(2), w);
            d.due("ORDER of SIDE 1 stays", x.many(3), w);
        }
        d.holds("best against some other ORDER is another one", differs);
    }

    /** Against one ORDER alone SAFE is BEST; against 24 of them it is another one here. */
    private static void safeByTheLeast(Due d) {
        Bench b = Bench.fight(d, "d;b01;b31:b11");
        b.gives("safe 0 1", 1);
        Bench turned = Bench.fight(d, "d;b11:b01:b31");
        turned.gives("safe 1 1", 1);
        String text = "d;t33;u11;u12;t22:t03:u11:u33:t21";
        Bench apart = Bench.fight(d, text);
        apart.gives("best 0 7", 14);
        apart.gives("safe 0 7", 17);
        d.holds("the least by ORDER 17 is more than by ORDER 14", leastWon(text, 17) > leastWon(text, 14));
        for (int v = 0; v < 17; v++) {
            d.holds("the least by ORDER " + v + " is less", leastWon(text, v) < leastWon(text, 17));
        }
    }

    private static long leastWon(String text, int v) {
        PillowRows x = Due.of(text);
        x.order(0, v);
        long least = WHOLE;
        for (int w = 0; w < 24; w++) {
            x.order(1, w);
            least = Math.min(least, won(x, 0, 7));
        }
        return least;
    }

    private static void theOnlyOne(Due d) {
        Bench only0 = Bench.fight(d, "d;b11:u33:b01", "order 1 1");
        Bench only1 = Bench.fight(d, "d;u33;b01:b11", "order 0 1");
        for (int n : new int[] {0, 1, 12}) {
            only0.gives("best 0 " + n, 0);
            only0.gives("safe 0 " + n, 0);
            only0.gives("likely 0 " + n + " 1 0", 0);
            only1.gives("best 1 " + n, 0);
            only1.gives("safe 1 " + n, 0);
            only1.gives("likely 1 " + n + " 0 1", 0);
            only0.refuses("without 0 0 " + n + " 0", LOST);
            only0.refuses("without 0 0 " + n + " 1", LOST);
            only1.refuses("without 1 0 " + n + " 0", LOST);
        }
        only0.refuses("without 0 1 1 0", LOST);
        only1.refuses("without 1 1 1 0", LOST);
    }

    /** The one who is left fights alone: SIDE 0's far one by 3 quarters against 1, its near one turned round. */
    private static void oneOfTwo(Due d) {
        for (int order = 0; order < 2; order++) {
            Bench b = Bench.fight(d, "d;b01;b31:b21", "order 0 " + order);
            b.givesShare("without 0 0 0", 0, 1);
            b.givesShare("without 0 0 1", 9, 16);
            b.givesShare("without 0 1 1", 1, 16);
            b.refuses("without 0 2 1 0", LOST);
            b.refuses("without 1 0 1 0", LOST);
        }
        Bench of1 = Bench.fight(d, "d;b21:b01:b31", "order 1 1");
        of1.givesShare("without 1 0 1", 9, 16);
        of1.givesShare("without 1 1 1", 1, 16);
        of1.givesShare("without 1 1 12", (WHOLE - 531441) / 13, WHOLE);
    }

    /** Without the first in ORDER the second strikes first. */
    private static void theOthersInTheirOrder(Due d) {
        Bench up = Bench.fight(d, "d;b11;b01;b31:b21");
        up.givesShare("without 0 0 1", 1, 4);
        up.givesShare("without 0 2 1", 1, 4);
        Bench turned = Bench.fight(d, "d;b11;b01;b31:b21", "order 0 5");
        turned.givesShare("without 0 0 1", 3, 4);
        turned.givesShare("without 0 2 1", 1, 4);
        turned.givesShare("without 0 1 1", 3, 4);
    }
}
