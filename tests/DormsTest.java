/** Promises 2 to 6: DORMITORIES by a TEXT, their BOYS, ORDERS, LANDS. */
public final class DormsTest {
    public static void main(String[] args) {
        Due d = new Due("dormitories");
        textsThatAreTaken(d);
        firstFaults(d);
        refusalsAndFaults(d);
        takenFromTheMiddle(d);
        aFaultyTextChangesNothing(d);
        ofBoys(d);
        orders(d);
        landsByQuarters(d);
        d.end();
    }

    private static void textsThatAreTaken(Due d) {
        String most = "d;b01;t12;u23;b33:u01:t11:b22:u33";
        d.due("least text", Due.settle(new PillowRows(), "d;b01:b01"), 2);
        d.due("most text", Due.settle(new PillowRows(), most), 8);
        d.due("four against one", Due.settle(new PillowRows(), "d;b01;b01;b01;b01:b01"), 5);
        d.due("one against four", Due.settle(new PillowRows(), "d;b01:b01:b01:b01:b01"), 5);
        PillowRows x = Due.of(most);
        d.due("many(0)", x.many(0), 4);
        d.due("many(1)", x.many(1), 4);
        d.due("order", x.order(0, 5), 0);
        d.due("order", x.order(1, 7), 0);
        d.due("taken anew", Due.settle(x, "d;t11;b01:u22"), 3);
        d.due("many(0) anew", x.many(0), 2);
        d.due("many(1) anew", x.many(1), 1);
        d.due("ORDER 0 anew", x.many(2), 0);
        d.due("ORDER 1 anew", x.many(3), 0);
        d.due("no third BOY", x.ofBoy(0, 2, 0), -1);
        for (int lane = 0; lane < 3; lane++) {
            PillowRows y = new PillowRows();
            Due.write(y, 3, lane, "d;b01:b01");
            d.due("lane " + lane, y.dorms(3, lane, 0, 9), 2);
        }
    }

    private static void firstFaults(Due d) {
        fault(d, "", 0);
        fault(d, "x", 0);
        fault(d, ";b01:b01", 0);
        fault(d, "d", 1);
        fault(d, "dd", 1);
        fault(d, "d:b01", 1);
        fault(d, "d;", 2);
        fault(d, "d;a", 2);
        fault(d, "d;B01", 2);
        fault(d, "d;b", 3);
        fault(d, "d;b4", 3);
        fault(d, "d;b/", 3);
        fault(d, "d;b0", 4);
        fault(d, "d;b00", 4);
        fault(d, "d;b04", 4);
        fault(d, "d;b01", 5);
        fault(d, "d;b01d", 5);
        fault(d, "d;b01;b01", 9);
        fault(d, "d;b01:", 6);
        fault(d, "d;b01:b01;", 9);
        fault(d, "d;b01:b01:", 10);
        fault(d, "d;b01:b01x", 9);
        fault(d, "d;b01:b0", 8);
        fault(d, "d;b01;b01;b01;b01;", 17);
        fault(d, "d;b01;b01;b01;b01", 17);
        fault(d, "d;b01;b01;b01;b01x", 17);
        fault(d, "d;b01:b01:b01:b01:b01:", 21);
        fault(d, "d;b01:b01:b01:b01:b01;", 21);
        fault(d, "d;b01;b01;b01;b01:b01:b01:b01:b01:b01", 33);
        fault(d, "d;b01x:y01", 5);
    }

    private static void fault(Due d, String text, int place) {
        d.due("text \"" + text + "\"", Due.settle(new PillowRows(), text), -100 - place);
    }

    private static void refusalsAndFaults(Due d) {
        PillowRows x = new PillowRows();
        Due.write(x, 1, 1, "d;b01:b01");
        d.due("sheet -1", x.dorms(-1, 3, -1, -1), -1);
        d.due("sheet 4", x.dorms(4, 1, 0, 9), -1);
        d.due("lane 3", x.dorms(1, 3, 0, 9), -2);
        d.due("lane -1", x.dorms(0, -1, 0, 9), -2);
        d.due("CAST ahead of SIZE", x.dorms(1, 0, 0, -1), -12);
        d.due("fault", x.fault(), 2);
        d.due("nothing is no CAST", x.dorms(0, 2, 0, -1), -11);
        d.due("fault", x.fault(), 1);
        d.due("SIZE ahead of INDEX", x.dorms(1, 1, -1, -1), -14);
        d.due("fault", x.fault(), 4);
        d.due("INDEX below", x.dorms(1, 1, -1, 0), -13);
        d.due("fault", x.fault(), 3);
        d.due("INDEX beyond", x.dorms(1, 1, 0, 10), -13);
        d.due("INDEX that would wrap", x.dorms(1, 1, 9, Integer.MAX_VALUE), -13);
        d.due("none of them taken", x.dorms(1, 1, 10, 0), -13);
        d.due("none at the end", x.dorms(1, 1, 9, 0), -100);
        d.due("FIRST FAULT is no FAULT", x.fault(), 0);
        d.due("INDEX", x.dorms(1, 1, 0, 10), -13);
        d.due("refused", x.dorms(4, 1, 0, 9), -1);
        d.due("fault of a refusal", x.fault(), 0);
        d.due("INDEX", x.dorms(1, 1, 0, 10), -13);
        d.due("taken", x.dorms(1, 1, 0, 9), 2);
        d.due("fault of none", x.fault(), 0);
    }

    private static void takenFromTheMiddle(Due d) {
        PillowRows x = new PillowRows();
        Due.write(x, 2, 2, "xxxd;b01:t12zz");
        d.due("from 3 on", x.dorms(2, 2, 3, 9), 2);
        d.due("kind", x.ofBoy(1, 0, 0), 1);
        d.due("place counts from i on", x.dorms(2, 2, 3, 10), -109);
        Due.write(x, 1, 1, "d;b01:t12:b11;u12");
        d.due("what is behind it does not count", x.dorms(1, 1, 0, 9), 2);
        d.due("one of SIDE 1", x.many(1), 1);
        x.put(2, 3, 100 + 256);
        d.due("an int is not cut to a code", x.dorms(2, 2, 3, 9), -100);
    }

    private static void aFaultyTextChangesNothing(Due d) {
        PillowRows x = Due.of("d;b11;t22:u33");
        x.order(0, 1);
        Due.settle(x, "d;b01:b0");
        d.due("many(0)", x.many(0), 2);
        d.due("many(1)", x.many(1), 1);
        d.due("ORDER", x.many(2), 1);
        d.due("kind", x.ofBoy(1, 0, 0), 2);
    }

    private static void ofBoys(Due d) {
        PillowRows x = Due.of("d;b31;t32;u33:u01:t12:b23");
        int[][] side0 = {{0, 3, 1, 3, 1}, {1, 3, 2, 4, 1}, {2, 3, 3, 8, 2}};
        int[][] side1 = {{2, 0, 1, 2, 2}, {1, 1, 2, 2, 1}, {0, 2, 3, 2, 1}};
        for (int k = 0; k < 3; k++) {
            for (int what = 0; what < 5; what++) {
                d.due("ofBoy(0, " + k + ", " + what + ")", x.ofBoy(0, k, what), side0[k][what]);
                d.due("ofBoy(1, " + k + ", " + what + ")", x.ofBoy(1, k, what), side1[k][what]);
            }
        }
        d.due("no such what", x.ofBoy(0, 0, 5), -2);
        d.due("no such what", x.ofBoy(0, 0, -1), -2);
        d.due("no such BOY", x.ofBoy(0, 3, 5), -1);
        d.due("no such BOY", x.ofBoy(1, -1, 0), -1);
        d.due("no such SIDE", x.ofBoy(2, 0, 0), -1);
        d.due("no such SIDE", x.ofBoy(-1, 0, 0), -1);
    }

    private static void orders(Due d) {
        PillowRows x = Due.of("d;b01;b01;b01;b01:b01:b01:b01");
        String[] fours = {"0123", "0132", "0213", "0231", "0312", "0321", "1023", "1032", "1203", "1230", "1302",
            "1320", "2013", "2031", "2103", "2130", "2301", "2310", "3012", "3021", "3102", "3120", "3201", "3210"};
        String[] threes = {"012", "021", "102", "120", "201", "210"};
        checkRows(d, x, 0, fours);
        checkRows(d, x, 1, threes);
        d.due("no ORDER 24", x.order(0, 24), -2);
        d.due("no ORDER 6", x.order(1, 6), -2);
        d.due("no ORDER -1", x.order(1, -1), -2);
        d.due("no SIDE", x.order(2, -1), -1);
        d.due("no SIDE", x.order(-1, 0), -1);
        d.due("unchanged", x.many(2), 23);
        d.due("unchanged", x.many(3), 5);
        d.due("no place 4", x.stands(0, 4), -1);
        d.due("no place 3", x.stands(1, 3), -1);
        d.due("no place -1", x.stands(1, -1), -1);
        d.due("no SIDE", x.stands(2, 0), -1);
        PillowRows one = Due.of("d;b01:b01;");
        d.due("a text not taken", one.order(0, 0), -3);
        PillowRows single = Due.of("d;b01:b01:b01");
        d.due("ORDER 0 of one", single.order(0, 0), 0);
        d.due("no ORDER 1 of one", single.order(0, 1), -2);
        d.due("ORDER 1 of two", single.order(1, 1), 0);
        d.due("first of two", single.stands(1, 0), 1);
    }

    private static void checkRows(Due d, PillowRows x, int side, String[] rows) {
        int was = 0;
        for (int v = 0; v < rows.length; v++) {
            d.due("order(" + side + ", " + v + ")", x.order(side, v), was);
            was = v;
            d.due("many", x.many(2 + side), v);
            for (int p = 0; p < rows[v].length(); p++) {
                d.due("ORDER " + v + " place " + p, x.stands(side, p), rows[v].charAt(p) - '0');
            }
        }
    }

    private static void landsByQuarters(Due d) {
        PillowRows x = Due.of("d;b01;b11;b21;b31:b11:b31:u31");
        int[][] of0 = {{1, 1, 1}, {2, 1, 1}, {3, 1, 1}, {3, 2, 1}};
        int[][] of1 = {{3, 2, 1, 1}, {3, 3, 3, 2}, {3, 3, 3, 3}};
        for (int a = 0; a < 4; a++) {
            for (int b = 0; b < 3; b++) {
                d.due("lands(0, " + a + ", " + b + ")", x.lands(0, a, b), of0[a][b]);
                d.due("lands(1, " + b + ", " + a + ")", x.lands(1, b, a), of1[b][a]);
            }
        }
        d.due("no SIDE", x.lands(2, 0, 0), -1);
        d.due("no SIDE", x.lands(-1, 0, 0), -1);
        d.due("no BOY", x.lands(0, 4, 0), -1);
        d.due("no other", x.lands(0, 0, 3), -1);
        d.due("no other", x.lands(1, 0, 4), -1);
        d.due("no BOY", x.lands(1, 3, 0), -1);
        d.due("other -1", x.lands(1, 0, -1), -1);
    }
}
