/** Promises 19 to 23 and 28: SHEETS, their cells, and which FAULT the latest call came to. */
public final class SheetsTest {
    private static final long LOST = Long.MIN_VALUE;

    public static void main(String[] args) {
        Due d = new Due("sheets");
        rows(d);
        losing(d);
        cutting(d);
        puts(d);
        cells(d);
        copies(d);
        copyRefusals(d);
        latestFault(d);
        d.end();
    }

    private static void rows(Due d) {
        PillowRows x = new PillowRows();
        for (int k = 0; k < 4; k++) {
            d.due("sheet", x.sheet(k, k % 3, 60), 1);
            for (int i = 0; i < 60; i++) {
                d.due("0 at first", x.cell(k, i, k % 3), 0);
            }
        }
        x.put(0, 5, 7);
        d.due("anew", x.sheet(0, 0, 6), 1);
        d.due("0 at first, anew", x.cell(0, 5, 0), 0);
        d.due("shorter", x.cell(0, 6, 0), LOST);
        d.due("of none", x.sheet(0, 2, 0), 1);
        d.due("no cell", x.cell(0, 0, 2), LOST);
        d.due("fault", x.fault(), 3);
        d.due("no such SHEET", x.sheet(4, 3, 61), -1);
        d.due("no such SHEET", x.sheet(-1, 0, 0), -1);
        d.due("lane", x.sheet(0, 3, -1), -2);
        d.due("lane", x.sheet(0, -1, -1), -2);
        d.due("above 60", x.sheet(0, 0, 61), -2);
        d.due("fault", x.fault(), 0);
        x.sheet(1, 1, 3);
        x.put(1, 2, 9);
        d.due("SIZE", x.sheet(1, 0, -1), -14);
        d.due("fault", x.fault(), 4);
        d.due("SIZE", x.sheet(1, 0, Integer.MIN_VALUE), -14);
        d.due("it keeps its row", x.cell(1, 2, 1), 9);
        d.due("fault of none", x.fault(), 0);
    }

    private static void losing(Due d) {
        PillowRows x = new PillowRows();
        d.due("nothing", x.lose(2), 0);
        x.sheet(2, 1, 4);
        x.put(2, 0, 5);
        d.due("a row", x.lose(2), 1);
        d.due("nothing again", x.lose(2), 0);
        d.due("put", x.put(2, 0, 5), -11);
        d.due("cell", x.cell(2, 0, 1), LOST);
        d.due("fault", x.fault(), 1);
        d.due("lose names none", x.lose(2), 0);
        d.due("fault stays", x.fault(), 1);
        x.sheet(2, 1, 4);
        d.due("0 at first", x.cell(2, 0, 1), 0);
        d.due("no SHEET", x.lose(-1), -1);
        d.due("no SHEET", x.lose(4), -1);
    }

    private static void cutting(Due d) {
        int[] values = {0, 127, 128, 255, 256, -1, -129, 32767, 32768, 65535, 70001, Integer.MAX_VALUE, Integer.MIN_VALUE};
        PillowRows x = new PillowRows();
        for (int lane = 0; lane < 3; lane++) {
            x.sheet(lane, lane, 1);
        }
        for (int v : values) {
            for (int lane = 0; lane < 3; lane++) {
                d.due("put", x.put(lane, 0, v), 1);
            }
            d.due("byte of " + v, x.cell(0, 0, 0), (byte) v);
            d.due("short of " + v, x.cell(1, 0, 1), (short) v);
            d.due("int of " + v, x.cell(2, 0, 2), v);
        }
    }

    private static void puts(Due d) {
        PillowRows x = new PillowRows();
        x.sheet(0, 0, 3);
        d.due("last", x.put(0, 2, 4), 1);
        d.due("beyond", x.put(0, 3, 4), -13);
        d.due("fault", x.fault(), 3);
        d.due("below", x.put(0, -1, 4), -13);
        d.due("no SHEET", x.put(4, 0, 4), -1);
        d.due("fault of a refusal", x.fault(), 0);
        d.due("no SHEET", x.put(-1, 0, 4), -1);
        d.due("NULL ahead of INDEX", x.put(1, -1, 4), -11);
        d.due("beyond all", x.put(0, Integer.MAX_VALUE, 4), -13);
        d.due("kept", x.cell(0, 2, 0), 4);
    }

    private static void cells(Due d) {
        PillowRows x = new PillowRows();
        x.sheet(0, 1, 2);
        x.put(0, 1, -5);
        d.due("cell", x.cell(0, 1, 1), -5);
        lost(d, x, x.cell(4, 0, 1), 0, "no SHEET");
        lost(d, x, x.cell(-1, 0, 1), 0, "no SHEET");
        lost(d, x, x.cell(0, 0, 3), 0, "lane");
        lost(d, x, x.cell(0, 0, -1), 0, "lane");
        lost(d, x, x.cell(0, 9, 2), 2, "CAST ahead of INDEX");
        lost(d, x, x.cell(1, 9, 2), 1, "nothing is no CAST");
        lost(d, x, x.cell(0, 2, 1), 3, "beyond");
        lost(d, x, x.cell(0, -1, 1), 3, "below");
    }

    private static void lost(Due d, PillowRows x, long got, int fault, String what) {
        d.due("cell: " + what, got, LOST);
        d.due("fault: " + what, x.fault(), fault);
    }

    private static void fill(PillowRows x, int k, int lane, int... values) {
        x.sheet(k, lane, values.length);
        for (int i = 0; i < values.length; i++) {
            x.put(k, i, values[i]);
        }
    }

    private static void has(Due d, PillowRows x, int k, int lane, int... values) {
        for (int i = 0; i < values.length; i++) {
            d.due("cell " + i + " of " + k, x.cell(k, i, lane), values[i]);
        }
        d.due("no more", x.cell(k, values.length, lane), LOST);
    }

    private static void copies(Due d) {
        PillowRows x = new PillowRows();
        fill(x, 0, 2, 1, 2, 3, 4, 5);
        fill(x, 1, 2, 9, 9, 9);
        d.due("to another", x.copy(0, 3, 1, 1, 2), 2);
        has(d, x, 1, 2, 9, 4, 5);
        d.due("upwards, as they were", x.copy(0, 0, 0, 1, 4), 4);
        has(d, x, 0, 2, 1, 1, 2, 3, 4);
        d.due("downwards, as they were", x.copy(0, 2, 0, 0, 3), 3);
        has(d, x, 0, 2, 2, 3, 4, 3, 4);
        d.due("none, at both ends", x.copy(0, 5, 1, 3, 0), 0);
        d.due("fault of none", x.fault(), 0);
        fill(x, 2, 0, -128, 127);
        fill(x, 3, 0, 0, 0);
        d.due("bytes", x.copy(2, 0, 3, 0, 2), 2);
        has(d, x, 3, 0, -128, 127);
    }

    private static void copyRefusals(Due d) {
        PillowRows x = new PillowRows();
        fill(x, 0, 2, 1, 2, 3);
        fill(x, 1, 1, 4, 5, 6);
        fill(x, 3, 2, 7, 8);
        d.due("no SHEET", x.copy(4, 0, 0, 0, 1), -1);
        d.due("no other", x.copy(2, 0, 4, 0, 1), -1);
        d.due("no other", x.copy(2, 0, -1, 0, 1), -1);
        d.due("fault of a refusal", x.fault(), 0);
        d.due("NULL, the first", x.copy(2, -1, 0, 0, 1), -11);
        d.due("NULL, the other", x.copy(0, -1, 2, 0, 1), -11);
        d.due("fault", x.fault(), 1);
        d.due("CAST ahead of INDEX", x.copy(0, -1, 1, 0, 1), -12);
        d.due("fault", x.fault(), 2);
        int[][] indexes = {{-1, 0, 1}, {0, -1, 1}, {0, 0, -1}, {4, 0, 0}, {0, 3, 0}, {3, 0, 1}, {0, 2, 1}, {2, 0, 2},
            {0, 1, 2}, {0, 0, Integer.MAX_VALUE}, {3, 2, Integer.MAX_VALUE}, {Integer.MAX_VALUE, 0, 1}};
        for (int[] a : indexes) {
            d.due("INDEX " + a[0] + " " + a[1] + " " + a[2], x.copy(0, a[0], 3, a[1], a[2]), -13);
            d.due("fault", x.fault(), 3);
        }
        has(d, x, 3, 2, 7, 8);
    }

    private static void latestFault(Due d) {
        PillowRows x = Due.of("d;b11;t11:u11");
        d.due("none so far", x.fault(), 0);
        x.put(1, 0, 0);
        d.due("many names none", x.many(0), 2);
        d.due("ofBoy names none", x.ofBoy(0, 9, 0), -1);
        d.due("tell names none", x.tell(0, 9), -1);
        d.due("order names none", x.order(0, 9), -2);
        d.due("split names none", x.split(9, 0, 0, 0), LOST);
        d.due("still NULL", x.fault(), 1);
        d.due("still NULL, asked again", x.fault(), 1);
        d.due("as", x.as(0, 0, 1), -12);
        d.due("CAST", x.fault(), 2);
        d.due("as", x.as(1, 0, 1), 1);
        d.due("none", x.fault(), 0);
    }
}
