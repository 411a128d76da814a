/** Promises 15 to 18: BLOWS and their CHANCE, SPLIT and SEND. */
public final class BlowsTest {
    private static final long LOST = Long.MIN_VALUE;

    public static void main(String[] args) {
        Due d = new Due("blows, ways round");
        becomes(d);
        chances(d);
        heavyAndBothAtOnce(d);
        refusals(d);
        refusalsOfChance(d);
        longRuns(d);
        splits(d);
        sends(d);
        d.end();
    }

    private static void chance(Due d, PillowRows x, int i, int n, long upper, long lower) {
        d.share("chance from " + i + " of " + n, x.chance(1, 2, i, n, 0), x.chance(1, 2, i, n, 1), upper, lower);
    }

    /** SIDE 0: one who bears 2, one who bears 1; SIDE 1: one who bears 3. */
    private static void becomes(Due d) {
        PillowRows x = Due.of("d;b12;b31:b23");
        Due.writeBlows(x, 1, "01011010101000");
        d.due("none", x.blows(1, 2, 0, 0), 0);
        d.due("none, at the end", x.blows(1, 2, 14, 0), 0);
        d.due("hit once", x.blows(1, 2, 0, 1), 0);
        d.due("hit twice", x.blows(1, 2, 0, 2), 10);
        d.due("two back", x.blows(1, 2, 0, 4), 10);
        d.due("three back", x.blows(1, 2, 0, 5), 11);
        d.due("a row behind the end", x.blows(1, 2, 0, 6), -105);
        d.due("the first of them", x.blows(1, 2, 0, 7), -105);
        d.due("from 4 on", x.blows(1, 2, 4, 3), 1);
        d.due("from 4 on, behind the end", x.blows(1, 2, 4, 4), -103);
        x.order(0, 1);
        d.due("by ORDER", x.blows(1, 2, 0, 1), 10);
        d.due("by ORDER", x.blows(1, 2, 0, 2), 10);
    }

    /** LANDS of the first is 1 against 3 quarters, of the second 3 against 1. */
    private static void chances(Due d) {
        PillowRows x = Due.of("d;b12;b31:b23");
        Due.writeBlows(x, 1, "01011010101000");
        chance(d, x, 0, 0, 1, 1);
        chance(d, x, 14, 0, 1, 1);
        chance(d, x, 0, 1, 9, 16);
        chance(d, x, 0, 2, 81, 256);
        chance(d, x, 0, 3, 81L * 9, 256 * 16);
        chance(d, x, 0, 5, 81L * 729, 1L << 20);
        chance(d, x, 0, 6, 0, 1);
        PillowRows even = Due.of("d;b11:b11");
        Due.writeBlows(even, 1, "0000");
        chance(d, even, 0, 2, 1, 16);
    }

    private static void heavyAndBothAtOnce(Due d) {
        PillowRows x = Due.of("d;u02:b03:b01");
        Due.writeBlows(x, 1, "1011111110");
        d.due("2 of 3", x.blows(1, 2, 0, 1), 0);
        d.due("4 of 3", x.blows(1, 2, 0, 2), 1);
        d.due("both at once", x.blows(1, 2, 0, 3), 12);
        d.due("it is over", x.blows(1, 2, 0, 4), -103);
        chance(d, x, 0, 1, 9, 16);
        chance(d, x, 0, 3, 9 * 3 * 3, 16 * 16 * 16);
        chance(d, x, 0, 4, 0, 1);
    }

    private static void refusals(Due d) {
        PillowRows x = Due.of("d;b12;b31:b23");
        Due.writeBlows(x, 1, "0102");
        d.due("sheet", x.blows(4, 3, 0, 31), -1);
        d.due("sheet", x.blows(-1, 0, 0, 0), -1);
        d.due("lane", x.blows(1, 3, 0, 0), -2);
        d.due("lane", x.blows(1, -1, 0, 0), -2);
        d.due("n", x.blows(1, 2, 0, 31), -2);
        d.due("n is no SIZE", x.blows(1, 2, 0, -1), -2);
        d.due("n ahead of CAST", x.blows(1, 1, 0, 31), -2);
        d.due("CAST ahead of INDEX", x.blows(1, 1, -1, 1), -12);
        d.due("fault", x.fault(), 2);
        d.due("nothing is no CAST", x.blows(2, 1, -1, 1), -11);
        d.due("fault", x.fault(), 1);
        d.due("INDEX ahead of a cell", x.blows(1, 2, 3, 1), -13);
        d.due("fault", x.fault(), 3);
        d.due("INDEX below", x.blows(1, 2, -1, 1), -13);
        d.due("INDEX, none taken", x.blows(1, 2, 5, 0), -13);
        d.due("INDEX, none taken", x.blows(1, 2, -1, 0), -13);
        d.due("INDEX that would wrap", x.blows(1, 2, Integer.MAX_VALUE, 1), -13);
        d.due("a cell", x.blows(1, 2, 0, 2), -2);
        d.due("fault of a refusal", x.fault(), 0);
        x.put(1, 3, -1);
        d.due("a cell below", x.blows(1, 2, 0, 2), -2);
        d.due("ahead of it", x.blows(1, 2, 0, 1), 0);
        d.due("the very first cell", x.blows(1, 2, 3, 0), 0);
        x.put(1, 0, 2);
        d.due("the very first cell", x.blows(1, 2, 0, 1), -2);
        PillowRows over = Due.of("d;b11:b11");
        Due.writeBlows(over, 1, "1100002");
        d.due("a cell ahead of a row that can't be", over.blows(1, 2, 1, 3), -2);
        d.due("row 1 can't be", over.blows(1, 2, 0, 3), -101);
    }

    private static void refusalsOfChance(Due d) {
        PillowRows x = Due.of("d;b12;b31:b23");
        Due.writeBlows(x, 1, "0102");
        lost(d, x, x.chance(4, 2, 0, 0, 0), 0, "sheet");
        lost(d, x, x.chance(-1, 2, 0, 0, 0), 0, "sheet");
        lost(d, x, x.chance(1, 3, 0, 0, 0), 0, "lane");
        lost(d, x, x.chance(1, -1, 0, 0, 0), 0, "lane");
        lost(d, x, x.chance(1, 2, 0, 13, 0), 0, "n");
        lost(d, x, x.chance(1, 2, 0, -1, 0), 0, "n");
        lost(d, x, x.chance(1, 1, 0, 1, 2), 0, "which ahead of CAST");
        lost(d, x, x.chance(1, 1, 0, 1, -1), 0, "which ahead of CAST");
        lost(d, x, x.chance(1, 1, -1, 1, 0), 2, "CAST ahead of INDEX");
        lost(d, x, x.chance(2, 1, -1, 1, 0), 1, "NULL ahead of INDEX");
        lost(d, x, x.chance(1, 2, 3, 1, 0), 3, "INDEX ahead of a cell");
        lost(d, x, x.chance(1, 2, 5, 0, 0), 3, "INDEX, none taken");
        lost(d, x, x.chance(1, 2, -1, 0, 0), 3, "INDEX, none taken");
        lost(d, x, x.chance(1, 2, 0, 2, 0), 0, "a cell");
        x.put(1, 9, 0);
        d.due("which 1 of a whole", x.chance(1, 2, 0, 0, 1), 1);
        d.due("fault of none", x.fault(), 0);
    }

    private static void lost(Due d, PillowRows x, long got, int fault, String what) {
        d.due("chance: " + what, got, LOST);
        d.due("fault: " + what, x.fault(), fault);
    }

    private static void longRuns(Due d) {
        PillowRows x = Due.of("d;b11:b31");
        Due.writeBlows(x, 1, "0".repeat(60));
        d.due("30 rows", x.blows(1, 2, 0, 30), 0);
        d.due("30 rows from 1 on", x.blows(1, 2, 1, 30), -13);
        chance(d, x, 0, 12, 531441, 1L << 48);
        PillowRows most = Due.of("d;b03;b03;b03;b03:b33");
        Due.writeBlows(most, 1, "01".repeat(13));
        d.due("11 of 12 blows", most.blows(1, 2, 0, 11), 30);
        d.due("12 of 12 blows", most.blows(1, 2, 0, 12), 40);
        d.due("13 of 12 blows", most.blows(1, 2, 0, 13), -112);
        chance(d, most, 0, 12, 282429536481L, 1L << 48);
        PillowRows y = Due.of("d;b01:b01");
        y.sheet(1, 0, 2);
        y.put(1, 0, 257);
        d.due("cut to its LANE", y.blows(1, 0, 0, 1), 1);
    }

    private static void split(Due d, PillowRows x, int n, int set, int other, long[] due) {
        d.share("split(" + n + ", " + set + ", " + other + ")", x.split(n, set, other, 0), x.split(n, set, other, 1),
            due[0], due[1]);
    }

    private static long[] share(long upper, long lower) {
        return new long[] {upper, lower};
    }

    private static void splits(Due d) {
        PillowRows x = Due.of("d;b11;b11:b11:b11");
        split(d, x, 0, 0, 0, share(0, 1));
        split(d, x, 1, 1, 1, share(1, 16));
        split(d, x, 1, 2, 1, share(1, 16));
        split(d, x, 2, 1, 1, share(25, 256));
        split(d, x, 6, 1, 2, share(1365L * 1365L, 4096L * 4096L));
        split(d, x, 6, 0, 1, share(0, 1));
        split(d, x, 6, 3, 1, share(0, 1));
        split(d, x, 3, 0, 0, share(x.odds(3, 0, 0), x.odds(3, 0, 1)));
        split(d, x, 3, 3, 3, share(x.odds(3, 0, 0), x.odds(3, 0, 1)));
        PillowRows one = Due.of("d;b11;b11;b11:b11");
        split(d, one, 1, 7, 1, share(1, 2));
        split(d, one, 1, 1, 0, share(1, 2));
        split(d, one, 0, 0, 0, share(0, 1));
        split(d, one, 1, 0, 1, share(0, 1));
        inOrder(d);
        d.due("n", x.split(7, 0, 0, 0), LOST);
        d.due("n", x.split(-1, 0, 0, 0), LOST);
        d.due("set", x.split(0, 4, 0, 0), LOST);
        d.due("set", x.split(0, -1, 0, 0), LOST);
        d.due("other", x.split(0, 0, 4, 0), LOST);
        d.due("other", x.split(0, 0, Integer.MIN_VALUE, 0), LOST);
        d.due("which", x.split(0, 0, 0, 2), LOST);
        d.due("which", x.split(0, 0, 0, -1), LOST);
    }

    /** Of two who go round the first in ORDER strikes: behind one ROUND it is he alone who counts. */
    private static void inOrder(Due d) {
        PillowRows x = Due.of("d;b01;b31;b11:b11:b11");
        split(d, x, 1, 3, 1, share(1, 4 * 4));
        x.order(0, 2);
        d.due("far one first", x.stands(0, 0), 1);
        split(d, x, 1, 3, 1, share(3, 4 * 4));
        split(d, x, 1, 4, 1, share(3, 4 * 4));
        split(d, x, 1, 6, 1, share(3, 4 * 4 * 4));
    }

    private static void sends(Due d) {
        PillowRows x = Due.of("d;b11;b11:b11:b11");
        d.due("all the same: the least", x.send(0, 1), 0);
        d.due("one against one each", x.send(1, 1), 1);
        d.due("one against one each", x.send(6, 2), 1);
        d.due("ORDER stays", x.many(2), 0);
        d.due("all of them", Due.of("d;b11:b11").send(1, 1), 1);
        d.due("all of them", Due.of("d;b01;b01;b01;b01:b31").send(6, 1), 15);
        for (int other = 0; other < 8; other++) {
            PillowRows y = Due.of("d;b12;t21;u03;b31:b33:t12:u01");
            y.order(0, 17);
            y.order(1, 4);
            int n = other % 7;
            d.due("send(" + n + ", " + other + ")", y.send(n, other), sendByTrying(y, n, other));
        }
        d.due("n", x.send(7, 0), -2);
        d.due("n", x.send(-1, 0), -2);
        d.due("other", x.send(0, 4), -2);
        d.due("other", x.send(6, -1), -2);
    }

    private static int sendByTrying(PillowRows x, int n, int other) {
        int found = 0;
        long most = -1;
        for (int set = 0; set < 1 << x.many(0); set++) {
            long ways = x.split(n, set, other, 0) * ((1L << 48) / x.split(n, set, other, 1));
            if (ways > most) {
                most = ways;
                found = set;
            }
        }
        return found;
    }
}
