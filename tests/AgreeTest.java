import java.math.BigInteger;
import java.util.Map;
import java.util.TreeMap;

/**
 * Promises by one another: ODDS, AHEAD, MEAN, SEEN are the CHANCES of all BLOWS that lead there; a row's CHANCE is
 * that of its two blows by LANDS; SPLIT is the ODDS of two TEXTS, of those who go and of those who hold.
 */
public final class AgreeTest {
    private static final String[] TEXTS = {"d;b12;t21:u02", "d;b01;b31:b11:t12", "d;u01;t02:b33:u11:b02", "d;b11:b11",
        "d;t33;b01;u12;b21:b03", "d;b22:t01:b31:u13:t02"};

    private final Due d;
    private final String text;
    private final int[] orders;
    private Map<Integer, BigInteger> ends;
    private int rounds;

    private AgreeTest(Due d, String text, int order0, int order1) {
        this.d = d;
        this.text = text;
        this.orders = new int[] {order0, order1};
    }

    public static void main(String[] args) {
        Due d = new Due("promises by one another");
        for (String text : TEXTS) {
            PillowRows x = Due.of(text);
            AgreeTest asWritten = new AgreeTest(d, text, 0, 0);
            AgreeTest turned = new AgreeTest(d, text, lastOrder(x.many(0)), lastOrder(x.many(1)));
            for (int n = 0; n <= 3; n++) {
                asWritten.byAllBlows(n);
                turned.byAllBlows(n);
            }
            asWritten.firstRows();
            turned.firstRows();
            asWritten.splits();
            turned.splits();
        }
        d.end();
    }

    private static int lastOrder(int boys) {
        return new int[] {0, 0, 1, 5, 23}[boys];
    }

    /** A new one each time: an object is used for 512 calls at most. */
    private PillowRows fresh() {
        PillowRows x = Due.of(text);
        x.order(0, orders[0]);
        x.order(1, orders[1]);
        return x;
    }

    // ---- all BLOWS that can be

    private void byAllBlows(int n) {
        rounds = n;
        ends = new TreeMap<>();
        follow("");
        PillowRows x = fresh();
        int of0 = x.many(0);
        int of1 = x.many(1);
        long[] odds = new long[4];
        long[] ahead = new long[3];
        long[] left = new long[2];
        for (Map.Entry<Integer, BigInteger> end : ends.entrySet()) {
            int left0 = of0 - end.getKey() / 10;
            int left1 = of1 - end.getKey() % 10;
            long ways = end.getValue().longValueExact();
            odds[left0 > 0 && left1 > 0 ? 3 : left0 > 0 ? 0 : left1 > 0 ? 1 : 2] += ways;
            ahead[left0 > left1 ? 0 : left0 == left1 ? 1 : 2] += ways;
            left[0] += left0 * ways;
            left[1] += left1 * ways;
        }
        for (int what = 0; what < 4; what++) {
            share("odds " + n + " " + what, x.odds(n, what, 0), x.odds(n, what, 1), odds[what]);
        }
        for (int what = 0; what < 3; what++) {
            share("ahead " + n + " " + what, x.ahead(n, what, 0), x.ahead(n, what, 1), ahead[what]);
        }
        for (int side = 0; side < 2; side++) {
            share("mean " + side + " " + n, x.mean(side, n, 0), x.mean(side, n, 1), left[side]);
        }
        for (int a = 0; a <= 4; a++) {
            for (int b = 0; b <= 4; b++) {
                long ways = ends.getOrDefault(10 * a + b, BigInteger.ZERO).longValueExact();
                share("seen " + n + " " + a + " " + b, x.seen(n, a, b, 0), x.seen(n, a, b, 1), ways);
            }
        }
    }

    /** BLOWS that can go on no further, or are told for all ROUNDS, are an end. */
    private void follow(String blows) {
        PillowRows x = fresh();
        Due.writeBlows(x, 1, blows + "00");
        int rows = blows.length() / 2;
        boolean isOver = x.blows(1, 2, 0, rows + 1) == -100 - rows;
        if (isOver || rows == rounds) {
            long lower = x.chance(1, 2, 0, rows, 1);
            BigInteger ways = BigInteger.valueOf(x.chance(1, 2, 0, rows, 0)).multiply(whole(rounds));
            d.due("CHANCE of " + blows + " by whole ways", ways.mod(BigInteger.valueOf(lower)).signum(), 0);
            ends.merge(x.blows(1, 2, 0, rows), ways.divide(BigInteger.valueOf(lower)), BigInteger::add);
            return;
        }
        for (String row : new String[] {"00", "01", "10", "11"}) {
            follow(blows + row);
        }
    }

    private static BigInteger whole(int rounds) {
        return BigInteger.valueOf(16).pow(rounds);
    }

    private void share(String call, long upper, long lower, long ways) {
        dueShare(call, upper, lower, BigInteger.valueOf(ways), whole(rounds));
    }

    private void dueShare(String call, long upper, long lower, BigInteger wantUpper, BigInteger wantLower) {
        BigInteger common = wantUpper.gcd(wantLower);
        d.share(call + " of " + text, upper, lower, wantUpper.divide(common).longValueExact(),
            wantLower.divide(common).longValueExact());
    }

    // ---- a row by LANDS

    private void firstRows() {
        PillowRows x = fresh();
        int a = x.stands(0, 0);
        int b = x.stands(1, 0);
        int[] of0 = {4 - x.lands(0, a, b), x.lands(0, a, b)};
        int[] of1 = {4 - x.lands(1, b, a), x.lands(1, b, a)};
        for (int hit0 = 0; hit0 < 2; hit0++) {
            for (int hit1 = 0; hit1 < 2; hit1++) {
                Due.writeBlows(x, 1, "" + hit0 + hit1);
                dueShare("chance of row " + hit0 + hit1, x.chance(1, 2, 0, 1, 0), x.chance(1, 2, 0, 1, 1),
                    BigInteger.valueOf(of0[hit0] * of1[hit1]), BigInteger.valueOf(16));
            }
        }
    }

    // ---- two ways by two TEXTS

    private void splits() {
        PillowRows x = fresh();
        int all0 = (1 << x.many(0)) - 1;
        int all1 = (1 << x.many(1)) - 1;
        for (int set = 0; set <= all0; set++) {
            for (int other = 0; other <= all1; other++) {
                int n = (3 * set + other) % 7;
                x = fresh();
                String going = rowOf(x, 0, set, ";") + rowOf(x, 1, other, ":");
                String holding = rowOf(x, 0, all0 ^ set, ";") + rowOf(x, 1, all1 ^ other, ":");
                BigInteger[] goes = wayOf(going, n);
                BigInteger[] holds = wayOf(holding, n);
                dueShare("split " + n + " " + set + " " + other, x.split(n, set, other, 0), x.split(n, set, other, 1),
                    goes[0].multiply(holds[0]), goes[1].multiply(holds[1]));
            }
        }
    }

    /** Those of a SIDE who are in the set, as they stand. */
    private String rowOf(PillowRows x, int side, int set, String mark) {
        StringBuilder row = new StringBuilder();
        for (int place = 0; place < x.many(side); place++) {
            int k = x.stands(side, place);
            if ((set >> k & 1) != 0) {
                row.append(mark).append("btu".charAt(x.ofBoy(side, k, 0))).append(x.ofBoy(side, k, 1)).append(x.ofBoy(side, k, 2));
            }
        }
        return row.toString();
    }

    private static BigInteger[] wayOf(String boys, int n) {
        if (boys.indexOf(':') < 0) {
            return new BigInteger[] {BigInteger.ONE, BigInteger.ONE};
        }
        if (boys.indexOf(';') < 0) {
            return new BigInteger[] {BigInteger.ZERO, BigInteger.ONE};
        }
        PillowRows way = Due.of("d" + boys);
        return new BigInteger[] {BigInteger.valueOf(way.odds(n, 0, 0)), BigInteger.valueOf(way.odds(n, 0, 1))};
    }
}
