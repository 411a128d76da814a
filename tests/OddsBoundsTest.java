/** Promises 7 to 10 at their bounds: 0 and 12 ROUNDS, a FIGHT that is over, nobody left, numbers outside. */
public final class OddsBoundsTest {
    private static final long LOST = Bench.LOST;

    public static void main(String[] args) {
        Due d = new Due("odds at their bounds");
        numbers(new Bench(d, "text 0 0 d;b12;t21;u03:b33:t12", "dorms 0 0 0 21", "order 0 3", "order 1 1"));
        noRounds(d);
        oneRound(d);
        twelveRounds(d);
        whatIsOverStaysOver(d);
        nobodyIsLeft(d);
        moreOutThanThereAre(d);
        bearsTogetherOrMore(d);
        bothAtOnce(d);
        theNextOneStrikesOnlyLater(d);
        d.end();
    }

    private static void numbers(Bench b) {
        b.bounds("odds ? 3 0", 0, 12, LOST);
        b.bounds("odds 12 ? 0", 0, 3, LOST);
        b.bounds("odds 12 0 ?", 0, 1, LOST);
        b.bounds("ahead ? 0 0", 0, 12, LOST);
        b.bounds("ahead 12 ? 0", 0, 2, LOST);
        b.bounds("ahead 12 0 ?", 0, 1, LOST);
        b.bounds("mean ? 0 0", 0, 1, LOST);
        b.bounds("mean 1 ? 0", 0, 12, LOST);
        b.bounds("mean 1 12 ?", 0, 1, LOST);
        b.bounds("seen ? 0 0 0", 0, 12, LOST);
        b.bounds("seen 12 ? 0 0", 0, 4, LOST);
        b.bounds("seen 12 0 ? 0", 0, 4, LOST);
        b.bounds("seen 12 0 0 ?", 0, 1, LOST);
    }

    private static void noRounds(Due d) {
        String[] texts = {"d;b11:b11", "d;b11;u31:t01", "d;b11:t01:b21:b33:u02", "d;b11;u31;t21;b01:b11:u31:t21:b01"};
        int[][] counts = {{1, 1}, {2, 1}, {1, 4}, {4, 4}};
        for (int t = 0; t < texts.length; t++) {
            Bench b = Bench.fight(d, texts[t]);
            int of0 = counts[t][0];
            int of1 = counts[t][1];
            for (int what = 0; what < 3; what++) {
                b.givesShare("odds 0 " + what, 0, 1);
                b.givesShare("ahead 0 " + what, what == 1 + Integer.compare(of1, of0) ? 1 : 0, 1);
            }
            b.givesShare("odds 0 3", 1, 1);
            b.givesShare("mean 0 0", of0, 1);
            b.givesShare("mean 1 0", of1, 1);
            for (int a = 0; a <= 4; a++) {
                for (int c = 0; c <= 4; c++) {
                    b.givesShare("seen 0 " + a + " " + c, a + c == 0 ? 1 : 0, 1);
                }
            }
        }
    }

    private static void oneRound(Due d) {
        Bench b = Bench.fight(d, "d;b01:b31");
        b.givesShare("odds 1 0", 1, 16);
        b.givesShare("odds 1 1", 9, 16);
        b.givesShare("odds 1 2", 3, 16);
        b.givesShare("odds 1 3", 3, 16);
        b.givesShare("ahead 1 1", 3, 8);
    }

    /** Twelve blows of twelve, and just 11 of 12; the other one bears no more than two of his twelve. */
    private static void twelveRounds(Due d) {
        Bench b = Bench.fight(d, "d;b33:b03:b03:b03:b03");
        long all = 531441;
        b.givesShare("odds 11 0", 0, 1);
        b.givesShare("odds 12 0", all * 59049L * (9 + 36 + 66), 1L << 48);
        b.givesShare("seen 12 0 4", all * 59049L * (9 + 36 + 66), 1L << 48);
        Bench even = Bench.fight(d, "d;b11:b11");
        even.givesShare("odds 12 3", 1, 1L << 24);
        even.givesShare("odds 11 3", 1, 1L << 22);
        even.givesShare("mean 0 12", 2796203, 8388608);
        Bench near = Bench.fight(d, "d;b01:b31");
        near.givesShare("odds 12 3", all, 1L << 48);
    }

    /** Of 16 ways of a ROUND 1 lets SIDE 0 win, 9 SIDE 1, 3 leave nobody; by 3 it goes on. */
    private static void whatIsOverStaysOver(Due d) {
        PillowRows x = Due.of("d;b01:b31");
        long ended = 0;
        long on = 1;
        long whole = 1;
        for (int n = 1; n <= 12; n++) {
            ended = 16 * ended + on;
            on *= 3;
            whole *= 16;
            due(d, "odds(" + n + ", 0)", x.odds(n, 0, 0), x.odds(n, 0, 1), ended, whole);
            due(d, "odds(" + n + ", 1)", x.odds(n, 1, 0), x.odds(n, 1, 1), 9 * ended, whole);
            due(d, "odds(" + n + ", 2)", x.odds(n, 2, 0), x.odds(n, 2, 1), 3 * ended, whole);
            due(d, "odds(" + n + ", 3)", x.odds(n, 3, 0), x.odds(n, 3, 1), on, whole);
            due(d, "ahead(" + n + ", 1)", x.ahead(n, 1, 0), x.ahead(n, 1, 1), 3 * ended + on, whole);
            due(d, "mean(0, " + n + ")", x.mean(0, n, 0), x.mean(0, n, 1), ended + on, whole);
            due(d, "mean(1, " + n + ")", x.mean(1, n, 0), x.mean(1, n, 1), 9 * ended + on, whole);
            due(d, "seen(" + n + ", 1, 1)", x.seen(n, 1, 1, 0), x.seen(n, 1, 1, 1), 3 * ended, whole);
        }
    }

    /** A share in any terms is due in least terms. */
    private static void due(Due d, String call, long upper, long lower, long wantUpper, long wantLower) {
        long common = java.math.BigInteger.valueOf(wantUpper).gcd(java.math.BigInteger.valueOf(wantLower)).longValue();
        d.share(call, upper, lower, wantUpper / common, wantLower / common);
    }

    /** Two against two, each blow by a half, each bears one. */
    private static void nobodyIsLeft(Due d) {
        Bench b = Bench.fight(d, "d;b11;b11:b11:b11");
        b.givesShare("odds 1 2", 0, 1);
        b.givesShare("odds 2 2", 1, 16);
        b.givesShare("seen 2 2 2", 1, 16);
        b.givesShare("seen 2 1 1", 1, 4);
        b.givesShare("ahead 2 1", 3, 8);
        b.givesShare("ahead 2 0", 5, 16);
        b.givesShare("odds 2 0", 3, 16);
        b.givesShare("odds 2 1", 3, 16);
        b.givesShare("odds 2 3", 9, 16);
        b.givesShare("mean 0 2", 1, 1);
        b.givesShare("mean 1 1", 3, 2);
    }

    private static void moreOutThanThereAre(Due d) {
        Bench b = Bench.fight(d, "d;b11;b11:b11");
        for (int n : new int[] {0, 1, 12}) {
            b.givesShare("seen " + n + " 3 0", 0, 1);
            b.givesShare("seen " + n + " 4 1", 0, 1);
            b.givesShare("seen " + n + " 0 2", 0, 1);
            b.givesShare("seen " + n + " 2 4", 0, 1);
        }
        b.givesShare("seen 2 2 0", 1, 16);
    }

    /** A BULLY's blow of 2 against BEARS 1, 2, 3; a blow of 1 against each of them. */
    private static void bearsTogetherOrMore(Due d) {
        Bench.fight(d, "d;u33:b01").givesShare("seen 1 0 1", 3, 4);
        Bench.fight(d, "d;u33:b02").givesShare("seen 1 0 1", 3, 4);
        Bench.fight(d, "d;u33:b03").givesShare("seen 1 0 1", 0, 1);
        Bench.fight(d, "d;u33:b03").givesShare("seen 2 0 1", 9, 16);
        Bench.fight(d, "d;b33:b01").givesShare("seen 1 0 1", 3, 4);
        Bench.fight(d, "d;b33:b02").givesShare("seen 1 0 1", 0, 1);
        Bench.fight(d, "d;b33:b02").givesShare("seen 2 0 1", 9, 16);
        Bench.fight(d, "d;b33:b03").givesShare("seen 2 0 1", 0, 1);
        Bench.fight(d, "d;b33:b03").givesShare("odds 3 0", 1701, 4096);
    }

    /** Who is OUT behind a ROUND has struck in it: both may be. */
    private static void bothAtOnce(Due d) {
        Bench b = Bench.fight(d, "d;b11:b11");
        b.givesShare("seen 1 1 1", 1, 4);
        b.givesShare("odds 1 2", 1, 4);
        Bench bullies = Bench.fight(d, "d;u11:u12");
        bullies.givesShare("seen 1 1 1", 1, 4);
    }

    /** Behind one ROUND but one of a SIDE can be OUT, however heavy the blow. */
    private static void theNextOneStrikesOnlyLater(Due d) {
        Bench b = Bench.fight(d, "d;u33:b01:b01:b01:b01");
        for (int n = 1; n <= 3; n++) {
            b.givesShare("seen " + n + " 0 " + (n + 1), 0, 1);
        }
        b.givesShare("seen 1 0 1", 3, 4);
        b.givesShare("seen 3 0 3", 27 * 63, 64 * 64);
    }
}
