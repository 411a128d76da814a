/** Promises 7 to 10: ODDS, AHEAD, MEAN, SEEN, by shares that were worked out by hand. */
public final class OddsTest {
    private static final long LOST = Long.MIN_VALUE;

    public static void main(String[] args) {
        Due d = new Due("odds");
        oneAgainstOne(d);
        bullyAgainstBoy(d);
        heavyBlowsAreNotPassedOn(d);
        asLongAsCanBe(d);
        theOrderCounts(d);
        refusals(d);
        allSharesTogetherAreOne(d);
        d.end();
    }

    private static void odds(Due d, PillowRows x, int n, int what, long upper, long lower) {
        d.share("odds(" + n + ", " + what + ")", x.odds(n, what, 0), x.odds(n, what, 1), upper, lower);
    }

    private static void ahead(Due d, PillowRows x, int n, int what, long upper, long lower) {
        d.share("ahead(" + n + ", " + what + ")", x.ahead(n, what, 0), x.ahead(n, what, 1), upper, lower);
    }

    private static void mean(Due d, PillowRows x, int side, int n, long upper, long lower) {
        d.share("mean(" + side + ", " + n + ")", x.mean(side, n, 0), x.mean(side, n, 1), upper, lower);
    }

    private static void seen(Due d, PillowRows x, int n, int a, int b, long upper, long lower) {
        d.share("seen(" + n + ", " + a + ", " + b + ")", x.seen(n, a, b, 0), x.seen(n, a, b, 1), upper, lower);
    }

    /** Both land by halves: a quarter for each of the four ends of a ROUND, as long as it goes on. */
    private static void oneAgainstOne(Due d) {
        PillowRows x = Due.of("d;b11:b11");
        odds(d, x, 0, 0, 0, 1);
        odds(d, x, 0, 3, 1, 1);
        for (int what = 0; what < 3; what++) {
            odds(d, x, 1, what, 1, 4);
            odds(d, x, 2, what, 5, 16);
            odds(d, x, 12, what, 5592405, 16777216);
        }
        odds(d, x, 1, 3, 1, 4);
        odds(d, x, 12, 3, 1, 16777216);
        ahead(d, x, 0, 1, 1, 1);
        ahead(d, x, 1, 0, 1, 4);
        ahead(d, x, 1, 1, 1, 2);
        ahead(d, x, 1, 2, 1, 4);
        mean(d, x, 0, 0, 1, 1);
        mean(d, x, 0, 1, 1, 2);
        mean(d, x, 1, 1, 1, 2);
        seen(d, x, 0, 0, 0, 1, 1);
        seen(d, x, 1, 0, 0, 1, 4);
        seen(d, x, 1, 1, 0, 1, 4);
        seen(d, x, 1, 0, 1, 1, 4);
        seen(d, x, 1, 1, 1, 1, 4);
        seen(d, x, 1, 2, 0, 0, 1);
        seen(d, x, 12, 4, 4, 0, 1);
    }

    /** The BULLY lands by 3 quarters and weighs 2; the BOY lands by 1: each has to be hit twice. */
    private static void bullyAgainstBoy(Due d) {
        PillowRows x = Due.of("d;u02:b03");
        odds(d, x, 1, 3, 1, 1);
        odds(d, x, 2, 0, 135, 256);
        odds(d, x, 2, 1, 7, 256);
        odds(d, x, 2, 2, 9, 256);
        odds(d, x, 2, 3, 105, 256);
        ahead(d, x, 2, 0, 135, 256);
        ahead(d, x, 2, 1, 57, 128);
        ahead(d, x, 2, 2, 7, 256);
        mean(d, x, 0, 2, 15, 16);
        mean(d, x, 1, 2, 7, 16);
        seen(d, x, 2, 1, 0, 7, 256);
        seen(d, x, 2, 0, 1, 135, 256);
    }

    /** A blow of 2 puts out one BOY who bears 1, not the next one too. */
    private static void heavyBlowsAreNotPassedOn(Due d) {
        PillowRows x = Due.of("d;u33:b01:b01");
        odds(d, x, 1, 0, 0, 1);
        seen(d, x, 1, 0, 1, 3, 4);
        odds(d, x, 2, 0, 9, 16);
        mean(d, x, 1, 1, 5, 4);
        mean(d, x, 1, 2, 1, 2);
        mean(d, x, 0, 2, 1, 1);
    }

    /** Four who bear 3 each are out behind 12 blows of 12, each by 3 quarters; he is hit twice at the most. */
    private static void asLongAsCanBe(Due d) {
        PillowRows x = Due.of("d;b03;b03;b03;b03:b33");
        long landed = 531441;
        long hitTwiceAtMost = 59049L * (9 + 12 * 3 + 66);
        odds(d, x, 12, 1, landed * hitTwiceAtMost, 1L << 48);
        odds(d, x, 11, 1, 0, 1);
        PillowRows y = Due.of("d;b33:b03:b03:b03:b03");
        odds(d, y, 12, 0, landed * hitTwiceAtMost, 1L << 48);
        mean(d, y, 1, 0, 4, 1);
        mean(d, y, 1, 3, 229, 64);
    }

    private static void theOrderCounts(Due d) {
        PillowRows x = Due.of("d;b01;b31:b11");
        odds(d, x, 1, 0, 1, 4);
        seen(d, x, 1, 1, 0, 9, 16);
        mean(d, x, 0, 1, 5, 4);
        x.order(0, 1);
        odds(d, x, 1, 0, 3, 4);
        seen(d, x, 1, 1, 0, 1, 16);
        mean(d, x, 0, 1, 7, 4);
        ahead(d, x, 1, 0, 15, 16);
        ahead(d, x, 1, 1, 1, 16);
        ahead(d, x, 1, 2, 0, 1);
    }

    private static void refusals(Due d) {
        PillowRows x = Due.of("d;b11:b11");
        int[][] odds = {{-1, 0, 0}, {13, 0, 0}, {0, -1, 0}, {0, 4, 0}, {0, 0, -1}, {0, 0, 2}};
        for (int[] a : odds) {
            d.due("odds", x.odds(a[0], a[1], a[2]), LOST);
        }
        int[][] ahead = {{-1, 0, 0}, {13, 0, 0}, {0, -1, 0}, {0, 3, 0}, {0, 0, -1}, {0, 0, 2}};
        for (int[] a : ahead) {
            d.due("ahead", x.ahead(a[0], a[1], a[2]), LOST);
        }
        int[][] mean = {{-1, 0, 0}, {2, 0, 0}, {0, -1, 0}, {0, 13, 0}, {0, 0, -1}, {0, 0, 2}};
        for (int[] a : mean) {
            d.due("mean", x.mean(a[0], a[1], a[2]), LOST);
        }
        int[][] seen = {{-1, 0, 0, 0}, {13, 0, 0, 0}, {0, -1, 0, 0}, {0, 5, 0, 0}, {0, 0, -1, 0}, {0, 0, 5, 0},
            {0, 0, 0, -1}, {0, 0, 0, 2}};
        for (int[] a : seen) {
            d.due("seen", x.seen(a[0], a[1], a[2], a[3]), LOST);
        }
        x.put(3, 0, 0);
        x.odds(13, 0, 0);
        x.seen(13, 0, 0, 0);
        d.due("they name no FAULT", x.fault(), 1);
    }

    private static void allSharesTogetherAreOne(Due d) {
        long whole = 1L << 48;
        for (int n = 0; n <= 12; n++) {
            PillowRows x = Due.of("d;u33;b23;t13;b03:b33:u03:t23:b13");
            long ends = 0;
            long leads = 0;
            long outs = 0;
            for (int what = 0; what < 4; what++) {
                ends += x.odds(n, what, 0) * (whole / x.odds(n, what, 1));
            }
            for (int what = 0; what < 3; what++) {
                leads += x.ahead(n, what, 0) * (whole / x.ahead(n, what, 1));
            }
            for (int a = 0; a < 5; a++) {
                for (int b = 0; b < 5; b++) {
                    outs += x.seen(n, a, b, 0) * (whole / x.seen(n, a, b, 1));
                }
            }
            d.due("ODDS behind " + n, ends, whole);
            d.due("AHEAD behind " + n, leads, whole);
            d.due("SEEN behind " + n, outs, whole);
        }
    }
}
