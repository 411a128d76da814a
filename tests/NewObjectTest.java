/** Promise 1: every call ahead of any TEXT and any SHEET's row; what changes as SHEETS have rows, but no TEXT. */
public final class NewObjectTest {
    private static final long LOST = Bench.LOST;
    private static final int UNKNOWN = Bench.UNKNOWN, OUTSIDE = Bench.OUTSIDE, STATE = Bench.STATE;
    private static final int NULL = Bench.NULL, CAST = Bench.CAST, INDEX = Bench.INDEX, SIZE = Bench.SIZE;

    public static void main(String[] args) {
        Due d = new Due("new object");
        constants(d);
        countsAndMarks(d);
        Bench none = new Bench(d);
        dormitories(none);
        odds(none);
        orders(none);
        blowsAndWaysRound(none);
        sheets(none);
        kinds(none);
        firstRows(none);
        rowsWithoutText(d);
        objectsAreApart(d);
        d.end();
    }

    private static void constants(Due d) {
        d.due("UNKNOWN", PillowRows.UNKNOWN, -1);
        d.due("OUTSIDE", PillowRows.OUTSIDE, -2);
        d.due("STATE", PillowRows.STATE, -3);
        d.due("LOST", PillowRows.LOST, Long.MIN_VALUE);
    }

    private static void countsAndMarks(Due d) {
        PillowRows x = new PillowRows();
        d.due("fault()", x.fault(), 0);
        d.due("trace()", x.trace(), 0);
        for (int what = 0; what < 4; what++) {
            d.due("many(" + what + ")", x.many(what), 0);
        }
        d.due("many(4)", x.many(4), -2);
        d.due("many(-1)", x.many(-1), -2);
        d.due("fault(), still", x.fault(), 0);
    }

    private static void dormitories(Bench none) {
        for (int k = 0; k < 4; k++) {
            for (int lane = 0; lane < 3; lane++) {
                none.faults("dorms " + k + " " + lane + " 0 0", NULL);
                none.faults("dorms " + k + " " + lane + " -1 -1", NULL);
            }
        }
        none.bounds("dorms ? 0 0 0", 0, 3, UNKNOWN);
        none.bounds("dorms 0 ? 0 0", 0, 2, OUTSIDE);
        for (int side = -1; side < 3; side++) {
            none.refuses("ofBoy " + side + " 0 0", UNKNOWN);
            none.refuses("ofBoy " + side + " 0 5", UNKNOWN);
            none.refuses("stands " + side + " 0", UNKNOWN);
            none.refuses("stands " + side + " -1", UNKNOWN);
            none.refuses("lands " + side + " 0 0", UNKNOWN);
        }
        none.bounds("order ? 0", 0, 1, UNKNOWN);
        none.refuses("order 0 0", STATE);
        none.refuses("order 1 0", STATE);
        none.refuses("order 1 -1", STATE);
        none.refuses("order 0 99", STATE);
        none.refuses("order 2 99", UNKNOWN);
    }

    private static void odds(Bench none) {
        for (int n : new int[] {0, 12, 13, -1}) {
            for (int what = 0; what < 4; what++) {
                none.refuses("odds " + n + " " + what + " 0", LOST);
                none.refuses("odds " + n + " " + what + " 1", LOST);
                none.refuses("ahead " + n + " " + what + " 1", LOST);
            }
            none.refuses("mean 0 " + n + " 0", LOST);
            none.refuses("mean 1 " + n + " 1", LOST);
            none.refuses("seen " + n + " 0 0 0", LOST);
            none.refuses("seen " + n + " 4 4 1", LOST);
        }
        none.refuses("mean 2 0 0", LOST);
    }

    private static void orders(Bench none) {
        for (String call : new String[] {"best ", "safe "}) {
            none.bounds(call + "? 0", 0, 1, UNKNOWN);
            none.bounds(call + "0 ?", 0, 12, OUTSIDE);
            none.refuses(call + "0 0", STATE);
            none.refuses(call + "1 12", STATE);
            none.refuses(call + "2 13", UNKNOWN);
        }
        none.bounds("likely ? 0 0 0", 0, 1, UNKNOWN);
        none.bounds("likely 0 ? 0 0", 0, 12, OUTSIDE);
        none.bounds("likely 1 0 ? 0", 0, 4, OUTSIDE);
        none.bounds("likely 1 0 0 ?", 0, 4, OUTSIDE);
        none.refuses("likely 0 0 0 0", STATE);
        none.refuses("likely 1 12 4 4", STATE);
        none.refuses("likely 2 13 5 5", UNKNOWN);
        none.refuses("without 0 0 0 0", LOST);
        none.refuses("without 1 0 12 1", LOST);
    }

    private static void blowsAndWaysRound(Bench none) {
        none.bounds("blows ? 0 0 0", 0, 3, UNKNOWN);
        none.bounds("blows 0 ? 0 0", 0, 2, OUTSIDE);
        none.bounds("blows 0 0 0 ?", 0, 30, OUTSIDE);
        none.refuses("blows 0 0 0 0", STATE);
        none.refuses("blows 3 2 -1 30", STATE);
        none.refuses("blows 4 3 0 31", UNKNOWN);
        none.refuses("chance 0 0 0 0 0", LOST);
        none.refuses("chance 3 2 -1 12 1", LOST);
        none.refuses("chance 4 0 0 0 0", LOST);
        none.refuses("split 0 0 0 0", LOST);
        none.refuses("split 6 1 1 1", LOST);
        none.bounds("send ? 0", 0, 6, OUTSIDE);
        none.refuses("send 0 0", STATE);
        none.refuses("send 6 16", STATE);
        none.refuses("send 6 min", STATE);
        none.refuses("send 7 16", OUTSIDE);
    }

    private static void sheets(Bench none) {
        for (int k = 0; k < 4; k++) {
            none.gives("lose " + k, 0);
            none.faults("put " + k + " 0 1", NULL);
            none.faults("put " + k + " -1 1", NULL);
            none.faults("sheet " + k + " 0 -1", SIZE);
            none.faults("copy " + k + " 0 0 0 0", NULL);
            none.faults("copy 3 -1 " + k + " -1 -1", NULL);
            for (int lane = 0; lane < 3; lane++) {
                none.faults("cell " + k + " 0 " + lane, NULL);
                none.faults("cell " + k + " max " + lane, NULL);
            }
        }
        none.bounds("lose ?", 0, 3, UNKNOWN);
        none.bounds("put ? 0 0", 0, 3, UNKNOWN);
        none.bounds("copy ? 0 0 0 0", 0, 3, UNKNOWN);
        none.bounds("copy 0 0 ? 0 0", 0, 3, UNKNOWN);
        none.bounds("sheet ? 0 0", 0, 3, UNKNOWN);
        none.refuses("cell 4 0 0", LOST);
        none.refuses("cell 0 0 3", LOST);
    }

    private static void kinds(Bench none) {
        for (int side = -1; side < 3; side++) {
            none.refuses("tell " + side + " 0", UNKNOWN);
            none.refuses("name " + side + " 0", UNKNOWN);
            none.refuses("as " + side + " 0 0", UNKNOWN);
            none.refuses("as " + side + " 0 3", UNKNOWN);
        }
    }

    private static void firstRows(Bench none) {
        for (int k = 0; k < 4; k++) {
            none.gives("sheet " + k + " 0 0", 1);
            none.gives("sheet " + k + " 2 60", 1);
        }
    }

    /** Rows in SHEETS, one of them a TEXT that just ends too soon: there are still no DORMITORIES. */
    private static void rowsWithoutText(Due d) {
        Bench rows = new Bench(d, "text 0 0 d;b11:b1", "dorms 0 0 0 8", "cells 1 1 0 0");
        rows.firstFault("dorms 0 0 0 8", 8);
        rows.refuses("order 0 0", STATE);
        rows.refuses("odds 0 3 0", LOST);
        rows.refuses("best 0 0", STATE);
        rows.refuses("safe 1 0", STATE);
        rows.refuses("likely 0 0 0 0", STATE);
        rows.refuses("send 0 0", STATE);
        rows.refuses("blows 1 1 0 1", STATE);
        rows.refuses("blows 1 0 0 1", STATE);
        rows.refuses("blows 1 1 9 1", STATE);
        rows.refuses("chance 1 0 9 1 0", LOST);
        rows.refuses("tell 0 0", UNKNOWN);
        rows.refuses("stands 0 0", UNKNOWN);
        rows.faults("cell 1 0 0", CAST);
        rows.faults("cell 1 2 1", INDEX);
        for (int what = 0; what < 4; what++) {
            rows.gives("many " + what, 0);
        }
    }

    private static void objectsAreApart(Due d) {
        PillowRows told = Due.of("d;b11;t11:u11");
        told.tell(0, 1);
        told.order(0, 1);
        told.put(3, 0, 0);
        PillowRows other = new PillowRows();
        d.due("no BOYS of another object", other.many(0), 0);
        d.due("no ORDER of another object", other.many(2), 0);
        d.due("no TRACE of another object", other.trace(), 0);
        d.due("no FAULT of another object", other.fault(), 0);
        d.due("no SHEET of another object", other.lose(0), 0);
        d.due("his own", told.many(0), 2);
    }
}
