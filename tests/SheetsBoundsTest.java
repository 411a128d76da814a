/** Promises 19 to 23 and 28 at their bounds: rows of 0 and of 60, cutting to a LANE, copies, fault(). */
public final class SheetsBoundsTest {
    private static final long LOST = Bench.LOST;
    private static final int UNKNOWN = Bench.UNKNOWN, OUTSIDE = Bench.OUTSIDE;
    private static final int NULL = Bench.NULL, CAST = Bench.CAST, INDEX = Bench.INDEX, SIZE = Bench.SIZE;

    public static void main(String[] args) {
        Due d = new Due("sheets at their bounds");
        numbersOfSheet(d);
        rowsOfNone(d);
        rowsOfSixty(d);
        aNewRowForAnOldOne(d);
        losing(d);
        numbersOfPut(d);
        cutToItsLane(d);
        numbersOfCell(d);
        numbersOfCopy(d);
        copiesBetweenSheets(d);
        copiesWithinOneAsTheyWere(d);
        copiesOfRowsOfNone(d);
        faultBehindARefusedCall(d);
        faultBehindCallsThatNameNone(d);
        d.end();
    }

    private static void numbersOfSheet(Due d) {
        Bench b = new Bench(d, "cells 0 0 1 2 3", "cells 1 1 4 5", "cells 2 2 6", "sheet 3 2 0");
        b.bounds("sheet ? 1 5", 0, 3, UNKNOWN);
        b.bounds("sheet 0 ? 5", 0, 2, OUTSIDE);
        b.gives("sheet 0 0 0", 1);
        b.gives("sheet 0 0 60", 1);
        b.refuses("sheet 0 0 61", OUTSIDE);
        b.refuses("sheet 0 0 max", OUTSIDE);
        b.faults("sheet 0 0 -1", SIZE);
        b.faults("sheet 0 0 min", SIZE);
        b.refuses("sheet 0 3 -1", OUTSIDE);
        b.refuses("sheet 4 0 -1", UNKNOWN);
    }

    private static void rowsOfNone(Due d) {
        for (int lane = 0; lane < 3; lane++) {
            Bench b = new Bench(d, "sheet 1 " + lane + " 0");
            for (String i : new String[] {"-1", "0", "1", "59", "60", "min", "max"}) {
                b.faults("put 1 " + i + " 1", INDEX);
                b.faults("cell 1 " + i + " " + lane, INDEX);
            }
            b.faults("cell 1 0 " + (lane + 1) % 3, CAST);
            b.gives("copy 1 0 1 0 0", 0);
            b.gives("lose 1", 1);
        }
    }

    private static void rowsOfSixty(Due d) {
        for (int lane = 0; lane < 3; lane++) {
            PillowRows x = new PillowRows();
            d.due("sheet of 60", x.sheet(2, lane, 60), 1);
            for (int i = 0; i < 60; i++) {
                d.due("put " + i, x.put(2, i, i + 1), 1);
            }
            for (int i = 0; i < 60; i++) {
                d.due("cell " + i, x.cell(2, i, lane), i + 1);
            }
            d.due("put 60", x.put(2, 60, 1), -13);
            d.due("put -1", x.put(2, -1, 1), -13);
            d.due("cell 60", x.cell(2, 60, lane), LOST);
            d.due("the whole row", x.copy(2, 0, 2, 0, 60), 60);
            d.due("one more", x.copy(2, 0, 2, 0, 61), -13);
            d.due("the first stays", x.cell(2, 0, lane), 1);
            d.due("the last stays", x.cell(2, 59, lane), 60);
        }
    }

    /** 0 at first, also where an old row had numbers; it is of the new LANE and length. */
    private static void aNewRowForAnOldOne(Due d) {
        PillowRows x = new PillowRows();
        x.sheet(1, 2, 60);
        for (int i = 0; i < 60; i++) {
            x.put(1, i, -i - 1);
        }
        d.due("a shorter one", x.sheet(1, 1, 3), 1);
        for (int i = 0; i < 3; i++) {
            d.due("0 at first", x.cell(1, i, 1), 0);
        }
        d.due("no more of them", x.cell(1, 3, 1), LOST);
        d.due("it is INDEX", x.fault(), INDEX);
        d.due("no more of the old LANE", x.cell(1, 0, 2), LOST);
        d.due("it is CAST", x.fault(), CAST);
        x.put(1, 2, 7);
        d.due("a longer one", x.sheet(1, 2, 60), 1);
        for (int i = 0; i < 60; i++) {
            d.due("0 at first, longer", x.cell(1, i, 2), 0);
        }
        x.put(1, 0, 5);
        d.due("the same again", x.sheet(1, 2, 60), 1);
        d.due("0 at first, the same", x.cell(1, 0, 2), 0);
        x.put(1, 0, 6);
        x.sheet(0, 2, 60);
        d.due("another SHEET's stays", x.cell(1, 0, 2), 6);
    }

    private static void losing(Due d) {
        Bench b = new Bench(d, "cells 0 0 1 2", "sheet 1 1 0", "cells 2 2 5", "lose 2");
        b.bounds("lose ?", 0, 3, UNKNOWN);
        b.gives("lose 0", 1);
        b.gives("lose 1", 1);
        b.gives("lose 2", 0);
        b.gives("lose 3", 0);
        b.faults("put 2 0 1", NULL);
        b.faults("cell 2 0 2", NULL);
        b.faults("cell 2 0 0", NULL);
        b.faults("dorms 2 0 0 0", NULL);
        b.faults("copy 2 0 0 0 0", NULL);
        b.faults("copy 0 0 2 0 0", NULL);
        PillowRows x = b.fresh();
        d.due("lost", x.lose(0), 1);
        d.due("lost already", x.lose(0), 0);
        d.due("the others have theirs", x.lose(1), 1);
        d.due("a new row", x.sheet(0, 0, 2), 1);
        d.due("it has nothing of the old one", x.cell(0, 0, 0), 0);
        d.due("lost again", x.lose(0), 1);
    }

    private static void numbersOfPut(Due d) {
        Bench b = new Bench(d, "cells 0 0 1 2 3", "cells 1 1 4", "cells 2 2 5", "cells 3 2 6");
        b.bounds("put ? 0 9", 0, 3, UNKNOWN);
        b.indexBounds("put 0 ? 9", 0, 2);
        b.indexBounds("put 1 ? 9", 0, 0);
        for (String v : new String[] {"min", "-1", "0", "1", "max"}) {
            b.gives("put 2 0 " + v, 1);
        }
    }

    private static void cutToItsLane(Due d) {
        int[] values = {127, 128, 255, 256, -128, -129, -256, 32767, 32768, 65535, 65536, -32768, -32769, -65536,
            Integer.MAX_VALUE, Integer.MIN_VALUE};
        int[] bytes = {127, -128, -1, 0, -128, 127, 0, -1, 0, -1, 0, 0, -1, 0, -1, 0};
        int[] shorts = {127, 128, 255, 256, -128, -129, -256, 32767, -32768, -1, 0, -32768, 32767, 0, -1, 0};
        PillowRows x = new PillowRows();
        for (int lane = 0; lane < 3; lane++) {
            x.sheet(lane, lane, 2);
        }
        for (int k = 0; k < values.length; k++) {
            for (int lane = 0; lane < 3; lane++) {
                d.due("put " + values[k], x.put(lane, 1, values[k]), 1);
                int due = lane == 0 ? bytes[k] : lane == 1 ? shorts[k] : values[k];
                d.due(values[k] + " in lane " + lane, x.cell(lane, 1, lane), due);
                d.due("the cell ahead of it", x.cell(lane, 0, lane), 0);
            }
        }
    }

    private static void numbersOfCell(Due d) {
        Bench b = new Bench(d, "cells 0 1 7 8 9", "cells 1 1 7", "cells 2 1 7", "cells 3 1 7");
        b.bounds("cell ? 0 1", 0, 3, LOST);
        b.indexBounds("cell 0 ? 1", 0, 2);
        for (String lane : Bench.outside(0, 2)) {
            b.refuses("cell 0 0 " + lane, LOST);
            b.refuses("cell 0 99 " + lane, LOST);
        }
        b.faults("cell 0 0 0", CAST);
        b.faults("cell 0 0 2", CAST);
        b.faults("cell 0 3 0", CAST);
        b.gives("cell 0 2 1", 9);
    }

    private static void numbersOfCopy(Due d) {
        Bench b = new Bench(d, "cells 0 1 1 2 3 4 5", "cells 1 1 6 7 8", "cells 2 2 9", "cells 3 1 10");
        b.bounds("copy ? 0 1 0 0", 0, 3, UNKNOWN);
        b.bounds("copy 0 0 ? 0 0", 0, 3, UNKNOWN);
        b.indexBounds("copy 0 ? 1 0 1", 0, 4);
        b.indexBounds("copy 0 ? 1 0 3", 0, 2);
        b.indexBounds("copy 0 0 1 ? 1", 0, 2);
        b.indexBounds("copy 0 0 1 ? 3", 0, 0);
        b.indexBounds("copy 0 0 1 0 ?", 0, 3);
        b.indexBounds("copy 1 0 0 0 ?", 0, 3);
        b.indexBounds("copy 0 2 0 0 ?", 0, 3);
        b.indexBounds("copy 0 0 0 2 ?", 0, 3);
        b.faults("copy 0 max 1 0 max", INDEX);
        b.faults("copy 0 5 1 3 max", INDEX);
        b.faults("copy 0 min 1 0 min", INDEX);
        b.faults("copy 0 6 1 0 -1", INDEX);
        b.faults("copy 0 0 2 0 0", CAST);
        b.faults("copy 2 0 0 9 9", CAST);
    }

    private static void has(Due d, PillowRows x, int k, int lane, int... values) {
        for (int i = 0; i < values.length; i++) {
            d.due("cell " + i + " of SHEET " + k, x.cell(k, i, lane), values[i]);
        }
        d.due("no more of SHEET " + k, x.cell(k, values.length, lane), LOST);
    }

    private static void copiesBetweenSheets(Due d) {
        Bench b = new Bench(d, "cells 0 1 1 2 3 -4 32768", "cells 1 1 6 7 8");
        PillowRows x = b.fresh();
        d.due("up to both ends", x.copy(0, 3, 1, 1, 2), 2);
        has(d, x, 1, 1, 6, -4, -32768);
        has(d, x, 0, 1, 1, 2, 3, -4, -32768);
        x = b.fresh();
        d.due("from both beginnings", x.copy(0, 0, 1, 0, 3), 3);
        has(d, x, 1, 1, 1, 2, 3);
        x = b.fresh();
        d.due("none of them", x.copy(0, 5, 1, 3, 0), 0);
        has(d, x, 1, 1, 6, 7, 8);
        x.copy(0, 0, 1, 0, 1);
        x.put(0, 0, 99);
        d.due("a copy stays as it is", x.cell(1, 0, 1), 1);
    }

    /** "(perhaps the same)", "as they were": to later and to earlier cells that are among those that go. */
    private static void copiesWithinOneAsTheyWere(Due d) {
        for (int lane = 0; lane < 3; lane++) {
            Bench b = new Bench(d, "cells 3 " + lane + " 1 2 3 4 5");
            PillowRows x = b.fresh();
            d.due("one later", x.copy(3, 0, 3, 1, 4), 4);
            has(d, x, 3, lane, 1, 1, 2, 3, 4);
            x = b.fresh();
            d.due("one earlier", x.copy(3, 1, 3, 0, 4), 4);
            has(d, x, 3, lane, 2, 3, 4, 5, 5);
            x = b.fresh();
            d.due("two later", x.copy(3, 0, 3, 2, 3), 3);
            has(d, x, 3, lane, 1, 2, 1, 2, 3);
            x = b.fresh();
            d.due("two earlier", x.copy(3, 2, 3, 0, 3), 3);
            has(d, x, 3, lane, 3, 4, 5, 4, 5);
            x = b.fresh();
            d.due("to where they are", x.copy(3, 0, 3, 0, 5), 5);
            has(d, x, 3, lane, 1, 2, 3, 4, 5);
            x = b.fresh();
            d.due("none at its end", x.copy(3, 5, 3, 5, 0), 0);
            has(d, x, 3, lane, 1, 2, 3, 4, 5);
        }
    }

    private static void copiesOfRowsOfNone(Due d) {
        Bench b = new Bench(d, "sheet 0 2 0", "sheet 1 2 0", "cells 2 2 1 2", "sheet 3 1 0");
        b.gives("copy 0 0 1 0 0", 0);
        b.gives("copy 0 0 2 2 0", 0);
        b.gives("copy 2 2 0 0 0", 0);
        b.faults("copy 0 0 2 0 1", INDEX);
        b.faults("copy 2 0 0 0 1", INDEX);
        b.faults("copy 0 1 2 0 0", INDEX);
        b.faults("copy 2 0 0 1 0", INDEX);
        b.faults("copy 0 0 3 0 0", CAST);
    }

    /** Behind each FAULT a refused call of each kind, and one that comes to none: 0. */
    private static void faultBehindARefusedCall(Due d) {
        String[] faulty = {"put 3 0 0", "cell 0 0 1", "put 0 9 0", "sheet 0 0 -1"};
        String[] refused = {"dorms 4 0 0 0", "dorms 0 3 0 0", "blows 4 0 0 0", "blows 0 3 0 0", "blows 0 0 0 31",
            "blows 0 0 0 1", "chance 4 0 0 0 0", "chance 0 3 0 0 0", "chance 0 0 0 13 0", "chance 0 0 0 0 2",
            "chance 0 0 0 1 0", "sheet 4 0 0", "sheet 0 3 0", "sheet 0 0 61", "put 4 0 0", "cell 4 0 0", "cell 0 0 3",
            "copy 4 0 0 0 0", "copy 0 0 4 0 0", "as 2 0 0", "as 0 9 0", "as 0 0 3"};
        String[] answered = {"dorms 0 0 0 9", "dorms 0 0 0 8", "dorms 0 0 1 8", "blows 1 0 0 1", "blows 0 0 0 0",
            "chance 1 0 0 1 0", "sheet 2 2 2", "put 0 0 0", "cell 0 0 0", "copy 0 0 0 0 0", "as 0 0 0"};
        for (int f = 0; f < faulty.length; f++) {
            for (String line : refused) {
                behind(d, faulty[f], f + 1, line, 0);
            }
            for (String line : answered) {
                behind(d, faulty[f], f + 1, line, 0);
            }
        }
    }

    private static void behind(Due d, String faulty, int fault, String line, int due) {
        PillowRows x = Due.of("d;b11:b11");
        x.sheet(1, 0, 2);
        Ask.of(x, faulty);
        d.due("fault() behind " + faulty, x.fault(), fault);
        Ask.of(x, line);
        d.due("fault() behind " + faulty + ", " + line, x.fault(), due);
        d.due("asked again", x.fault(), due);
    }

    private static void faultBehindCallsThatNameNone(Due d) {
        String[] calls = {"ofBoy 0 0 0", "ofBoy 9 0 0", "order 0 0", "order 0 9", "stands 0 0", "stands 0 9", "lands 0 0 0",
            "lands 9 0 0", "odds 1 0 0", "odds 13 0 0", "ahead 1 0 0", "ahead 13 0 0", "mean 0 1 0", "mean 9 0 0",
            "seen 1 0 0 0", "seen 13 0 0 0", "best 0 1", "best 9 1", "safe 0 1", "safe 9 1", "likely 0 1 0 0",
            "likely 0 13 0 0", "without 0 0 1 0", "without 9 0 1 0", "split 1 0 0 0", "split 9 0 0 0", "send 1 0", "send 1 9",
            "lose 3", "lose 0", "lose 9", "tell 0 0", "tell 9 0", "name 0 0", "name 0 9", "trace", "many 0", "many 9"};
        for (String line : calls) {
            behind(d, "put 3 0 0", NULL, line, NULL);
            behind(d, "sheet 0 0 -1", SIZE, line, SIZE);
        }
    }
}
