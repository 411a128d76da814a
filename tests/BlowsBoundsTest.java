/** Promises 15 to 18 at their bounds: rows behind the end, no rows and as many as can be, sets of nobody and all. */
public final class BlowsBoundsTest {
    private static final long LOST = Bench.LOST;
    private static final int UNKNOWN = Bench.UNKNOWN, OUTSIDE = Bench.OUTSIDE;
    private static final int NULL = Bench.NULL, CAST = Bench.CAST, INDEX = Bench.INDEX;

    public static void main(String[] args) {
        Due d = new Due("blows, ways round at their bounds");
        numbersOfBlows(d);
        numbersOfChance(d);
        cellsOfBlows(d);
        cellsThatAreNotTaken(d);
        noRows(d);
        behindTheEnd(d);
        aBadCellBehindTheEnd(d);
        asManyRowsAsCanBe(d);
        numbersOfSplit(d);
        setsOfOneSide(d);
        nobodyForAWay(d);
        noRoundsAndSix(d);
        allAreOut(d);
        numbersOfSend(d);
        sendOfSeveralTheLeast(d);
        nothingIsChanged(d);
        d.end();
    }

    private static void numbersOfBlows(Due d) {
        Bench b = Bench.fight(d, "d;b33:b33", "sheet 1 2 60", "sheet 2 2 1", "sheet 3 2 0");
        b.bounds("blows ? 2 0 0", 0, 3, UNKNOWN);
        b.bounds("blows 1 ? 0 0", 0, 2, OUTSIDE);
        b.bounds("blows 1 2 0 ?", 0, 30, OUTSIDE);
        b.indexBounds("blows 1 2 ? 30", 0, 0);
        b.indexBounds("blows 1 2 ? 1", 0, 58);
        b.indexBounds("blows 1 2 ? 0", 0, 60);
        b.indexBounds("blows 3 2 ? 0", 0, 0);
        b.faults("blows 2 2 0 1", INDEX);
        b.faults("blows 3 2 0 30", INDEX);
        b.faults("blows 1 0 0 0", CAST);
        b.faults("blows 1 1 0 30", CAST);
        Bench nothing = Bench.fight(d, "d;b33:b33");
        for (int lane = 0; lane < 3; lane++) {
            nothing.faults("blows 1 " + lane + " 0 0", NULL);
            nothing.faults("chance 1 " + lane + " 0 0 0", NULL);
        }
    }

    private static void numbersOfChance(Due d) {
        Bench b = Bench.fight(d, "d;b33:b33", "sheet 1 2 24", "sheet 2 2 1", "sheet 3 2 0");
        b.bounds("chance ? 2 0 0 0", 0, 3, LOST);
        b.bounds("chance 1 2 0 ? 0", 0, 12, LOST);
        b.bounds("chance 1 2 0 12 ?", 0, 1, LOST);
        for (String lane : Bench.outside(0, 2)) {
            b.refuses("chance 1 " + lane + " 0 0 0", LOST);
        }
        b.indexBounds("chance 1 2 ? 12 0", 0, 0);
        b.indexBounds("chance 1 2 ? 1 1", 0, 22);
        b.indexBounds("chance 1 2 ? 0 0", 0, 24);
        b.faults("chance 2 2 0 1 0", INDEX);
        b.faults("chance 1 0 0 0 0", CAST);
        b.faults("chance 1 1 0 12 1", CAST);
        b.refuses("chance 1 2 0 13 0", LOST);
        b.refuses("chance 1 1 99 13 0", LOST);
    }

    private static void cellsOfBlows(Due d) {
        String[] bad = {"-1", "2", "min", "max", "256", "65536", "48", "49"};
        for (String v : bad) {
            Bench first = Bench.fight(d, "d;b33:b33", "cells 1 2 " + v + " 0 1 1");
            first.refuses("blows 1 2 0 1", OUTSIDE);
            first.refuses("blows 1 2 0 2", OUTSIDE);
            first.refuses("chance 1 2 0 1 0", LOST);
            Bench last = Bench.fight(d, "d;b33:b33", "cells 1 2 0 1 1 " + v);
            last.refuses("blows 1 2 0 2", OUTSIDE);
            last.refuses("chance 1 2 0 2 1", LOST);
        }
        Bench bytes = Bench.fight(d, "d;b01:b01", "cells 1 0 256 -255 128 129");
        bytes.gives("blows 1 0 0 1", 10);
        bytes.refuses("blows 1 0 2 1", OUTSIDE);
        Bench shorts = Bench.fight(d, "d;b01:b01", "cells 1 1 65537 65536 256 257");
        shorts.gives("blows 1 1 0 1", 1);
        shorts.refuses("blows 1 1 2 1", OUTSIDE);
    }

    /** Ahead of i and behind the last row other numbers may stand. */
    private static void cellsThatAreNotTaken(Due d) {
        Bench b = Bench.fight(d, "d;b01:b01", "cells 1 2 7 0 1 7 7");
        b.gives("blows 1 2 1 1", 10);
        b.givesShare("chance 1 2 1 1", 1, 4);
        b.gives("blows 1 2 0 0", 0);
        b.gives("blows 1 2 4 0", 0);
        b.refuses("blows 1 2 0 1", OUTSIDE);
        b.refuses("blows 1 2 2 1", OUTSIDE);
        b.faults("blows 1 2 4 1", INDEX);
    }

    private static void noRows(Due d) {
        Bench b = Bench.fight(d, "d;b12;b31:b23", "sheet 1 0 0", "cells 2 1 1 1");
        b.gives("blows 1 0 0 0", 0);
        b.givesShare("chance 1 0 0 0", 1, 1);
        b.gives("blows 2 1 2 0", 0);
        b.givesShare("chance 2 1 2 0", 1, 1);
        b.faults("blows 3 0 0 0", NULL);
        b.faults("chance 3 0 0 0 0", NULL);
    }

    /** The last row that can be, the first that can't: SIDE 0 has nobody, SIDE 1, both. */
    private static void behindTheEnd(Due d) {
        String[] ends = {"0 1", "1 0", "1 1"};
        int[] becomes = {10, 1, 11};
        for (int e = 0; e < ends.length; e++) {
            for (String next : new String[] {"0 0", "0 1", "1 0", "1 1"}) {
                Bench b = Bench.fight(d, "d;b11:b11", "cells 1 2 0 0 " + ends[e] + " " + next + " 0 0");
                b.gives("blows 1 2 0 1", 0);
                b.gives("blows 1 2 0 2", becomes[e]);
                b.gives("blows 1 2 0 3", -102);
                b.gives("blows 1 2 0 4", -102);
                b.gives("blows 1 2 2 2", -101);
                b.givesShare("chance 1 2 0 2", 1, 16);
                b.givesShare("chance 1 2 0 3", 0, 1);
                b.givesShare("chance 1 2 0 4", 0, 1);
            }
        }
        Bench more = Bench.fight(d, "d;b11;b11:b11:b11", "cells 1 2 1 1 0 0 1 0 0 0");
        more.gives("blows 1 2 0 1", 11);
        more.gives("blows 1 2 0 2", 11);
        more.gives("blows 1 2 0 3", 12);
        more.gives("blows 1 2 0 4", -103);
    }

    /** REFUSALS come ahead of answers: the cell is told, not the row. */
    private static void aBadCellBehindTheEnd(Due d) {
        Bench b = Bench.fight(d, "d;b11:b11", "cells 1 2 1 0 0 0 0 2");
        b.gives("blows 1 2 0 2", -101);
        b.refuses("blows 1 2 0 3", OUTSIDE);
        b.givesShare("chance 1 2 0 2", 0, 1);
        b.refuses("chance 1 2 0 3 0", LOST);
    }

    private static void asManyRowsAsCanBe(Due d) {
        PillowRows x = Due.of("d;b03;b03;b03;b03:b33");
        Due.writeBlows(x, 1, "0".repeat(36) + "01".repeat(12));
        d.due("30 rows, of which 12 land", x.blows(1, 2, 0, 30), 40);
        d.due("31 rows", x.blows(1, 2, 0, 31), OUTSIDE);
        d.due("29 rows", x.blows(1, 2, 0, 29), 30);
        d.due("12 rows that land", x.blows(1, 2, 36, 12), 40);
        d.share("12 rows that land", x.chance(1, 2, 36, 12, 0), x.chance(1, 2, 36, 12, 1), 282429536481L, 1L << 48);
        d.share("12 rows of none", x.chance(1, 2, 0, 12, 0), x.chance(1, 2, 0, 12, 1), 531441, 1L << 48);
        d.due("13 rows", x.chance(1, 2, 0, 13, 0), LOST);
        Due.writeBlows(x, 1, "01".repeat(30));
        d.due("row 12 of 30 can't be", x.blows(1, 2, 0, 30), -112);
        PillowRows y = Due.of("d;b01:b01");
        Due.writeBlows(y, 1, "0".repeat(56) + "1100");
        d.due("row 29 can't be", y.blows(1, 2, 0, 30), -129);
        d.due("29 rows", y.blows(1, 2, 0, 29), 11);
    }

    private static void numbersOfSplit(Due d) {
        Bench b = Bench.fight(d, "d;b12;t21;u03:b33:t12");
        b.bounds("split ? 0 0 0", 0, 6, LOST);
        b.bounds("split 6 ? 0 0", 0, 7, LOST);
        b.bounds("split 6 0 ? 0", 0, 3, LOST);
        b.bounds("split 6 7 3 ?", 0, 1, LOST);
        Bench most = Bench.fight(d, "d;b12;t21;u03;b31:b33:t12:u01:b02");
        most.bounds("split 6 ? 0 1", 0, 15, LOST);
        most.bounds("split 6 0 ? 1", 0, 15, LOST);
        Bench one = Bench.fight(d, "d;b11:b11");
        one.bounds("split 1 ? 0 1", 0, 1, LOST);
        one.bounds("split 1 0 ? 1", 0, 1, LOST);
        one.refuses("split 1 3 1 0", LOST);
        one.refuses("split 1 -2 1 0", LOST);
        one.refuses("split 1 1 -2147483647 0", LOST);
    }

    /** The empty set and the full one of both SIDES: all meet on one way, as in the corridor. */
    private static void setsOfOneSide(Due d) {
        String[] texts = {"d;b11:b11", "d;b12;t21;u03:b33:t12", "d;b12;t21;u03;b31:b33:t12:u01:b02"};
        for (String text : texts) {
            PillowRows x = Due.of(text);
            int all0 = (1 << x.many(0)) - 1;
            int all1 = (1 << x.many(1)) - 1;
            for (int n = 0; n <= 6; n++) {
                long upper = x.odds(n, 0, 0);
                long lower = x.odds(n, 0, 1);
                d.share("all hold", x.split(n, 0, 0, 0), x.split(n, 0, 0, 1), upper, lower);
                d.share("all go", x.split(n, all0, all1, 0), x.split(n, all0, all1, 1), upper, lower);
                d.share("past each other", x.split(n, all0, 0, 0), x.split(n, all0, 0, 1), 0, 1);
                d.share("past each other", x.split(n, 0, all1, 0), x.split(n, 0, all1, 1), 0, 1);
            }
        }
    }

    /** Two against two, each blow by a half: who is alone on a way has WON it ahead of any ROUND. */
    private static void nobodyForAWay(Due d) {
        Bench b = Bench.fight(d, "d;b11;b11:b11:b11");
        b.givesShare("split 1 1 0", 0, 1);
        b.givesShare("split 2 1 0", 1, 16);
        b.givesShare("split 2 2 3", 1, 16);
        b.givesShare("split 6 0 1", 0, 1);
        b.givesShare("split 6 3 1", 0, 1);
        b.givesShare("split 6 0 2", 0, 1);
        Bench one = Bench.fight(d, "d;b11;b11:b11");
        one.givesShare("split 1 2 0", 1, 4);
        one.givesShare("split 1 2 1", 1, 4);
        one.givesShare("split 1 0 0", 1, 2);
        one.givesShare("split 1 3 1", 1, 2);
        one.givesShare("split 1 3 0", 0, 1);
    }

    private static void noRoundsAndSix(Due d) {
        Bench b = Bench.fight(d, "d;b11;b11:b11:b11");
        for (int set = 0; set < 4; set++) {
            for (int other = 0; other < 4; other++) {
                b.givesShare("split 0 " + set + " " + other, 0, 1);
            }
        }
        b.givesShare("split 6 1 1", 1365 * 1365, 1L << 24);
        b.givesShare("split 6 2 1", 1365 * 1365, 1L << 24);
        Bench far = Bench.fight(d, "d;b31;b31:b01:b01");
        long oneWay = (16777216L - 729) / 13 * 9;
        far.givesShare("split 6 1 1", oneWay * oneWay, 1L << 48);
    }

    /** One against one on each way: as both are OUT, nobody has WON it. */
    private static void allAreOut(Due d) {
        Bench b = Bench.fight(d, "d;b11;b11:b11:b11");
        b.givesShare("split 1 1 1", 1, 16);
        b.givesShare("split 2 1 2", 25, 256);
    }

    private static void numbersOfSend(Due d) {
        Bench b = Bench.fight(d, "d;b12;t21;u03:b33:t12", "order 0 3", "order 1 1");
        b.bounds("send ? 0", 0, 6, OUTSIDE);
        b.bounds("send 6 ?", 0, 3, OUTSIDE);
        b.bounds("send 0 ?", 0, 3, OUTSIDE);
        b.refuses("send 7 4", OUTSIDE);
        Bench most = Bench.fight(d, "d;b12:b33:t12:u01:b02");
        most.bounds("send 6 ?", 0, 15, OUTSIDE);
        Bench one = Bench.fight(d, "d;b12;t21:b33");
        one.bounds("send 6 ?", 0, 1, OUTSIDE);
    }

    private static void sendOfSeveralTheLeast(Due d) {
        Bench b = Bench.fight(d, "d;b11;b11;b11;b11:b11:b11", "order 0 23");
        for (int other = 0; other < 4; other++) {
            b.gives("send 0 " + other, 0);
        }
        b.gives("send 1 1", 3);
        b.gives("send 1 2", 3);
        Bench one = Bench.fight(d, "d;b11:b11");
        one.gives("send 0 1", 0);
        one.gives("send 6 0", 0);
        one.gives("send 6 1", 1);
        Bench two = Bench.fight(d, "d;b11;b11:b11");
        two.gives("send 1 0", 0);
        two.gives("send 1 1", 3);
        Bench full = Bench.fight(d, "d;b01;b01;b01;b01:b31");
        full.gives("send 6 1", 15);
        full.gives("send 6 0", 0);
    }

    private static void nothingIsChanged(Due d) {
        PillowRows x = Due.of("d;b12;t21;u03:b33:t12");
        Due.writeBlows(x, 1, "0110");
        x.order(0, 3);
        x.order(1, 1);
        String was = Look.at(x);
        x.blows(1, 2, 0, 2);
        x.chance(1, 2, 0, 2, 0);
        x.split(6, 3, 1, 0);
        x.send(6, 2);
        d.holds("blows, chance, split, send change nothing", Look.at(x).equals(was));
    }
}
