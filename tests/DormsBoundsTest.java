/** Promises 2 to 6 at their bounds: the TEXT and its FIRST FAULT, BOYS, ORDERS, LANDS. */
public final class DormsBoundsTest {
    private static final int UNKNOWN = Bench.UNKNOWN, OUTSIDE = Bench.OUTSIDE;
    private static final int INDEX = Bench.INDEX, SIZE = Bench.SIZE;
    private static final String LONGEST = "d;b01;t12;u23;b33:u03:t11:b22:u31";

    public static void main(String[] args) {
        Due d = new Due("dormitories at their bounds");
        fourBoysAtMost(d);
        theSemicolonOfAFifth(d);
        aSemicolonBehindSide1(d);
        endsTooSoon(d);
        everyCodeAtEveryPlace(d);
        farCodes(d);
        placesOfTheTextNotOfTheSheet(d);
        numbersOfDorms(d);
        atTheEndOfTheLongestRow(d);
        allAnew(d);
        notTaken(d);
        apartFromItsSheet(d);
        numbersOfBoys(d);
        numbersOfOrders(d);
        landsNoLessThanOneNoMoreThanThree(d);
        d.end();
    }

    private static void taken(Due d, String text, int want) {
        d.due("TEXT " + text, Due.settle(new PillowRows(), text), want);
    }

    private static void fault(Due d, String text, int place) {
        taken(d, text, -100 - place);
    }

    private static void fourBoysAtMost(Due d) {
        String of0 = "d";
        for (int a = 1; a <= 4; a++) {
            of0 += ";t21";
            String both = of0;
            for (int b = 1; b <= 4; b++) {
                both += ":u32";
                PillowRows x = new PillowRows();
                d.due("TEXT " + both, Due.settle(x, both), a + b);
                d.due("BOYS of SIDE 0", x.many(0), a);
                d.due("BOYS of SIDE 1", x.many(1), b);
                d.due("last of SIDE 0", x.ofBoy(0, a - 1, 0), 1);
                d.due("one more of SIDE 0", x.ofBoy(0, a, 0), UNKNOWN);
                d.due("last of SIDE 1", x.ofBoy(1, b - 1, 0), 2);
                d.due("one more of SIDE 1", x.ofBoy(1, b, 0), UNKNOWN);
            }
        }
        fault(d, "d:b01", 1);
        fault(d, "d", 1);
        fault(d, "d;b01", 5);
        fault(d, LONGEST + ":", 33);
        fault(d, LONGEST + ":b01", 33);
    }

    private static void theSemicolonOfAFifth(Due d) {
        fault(d, "d;b01;b01;b01;b01;", 17);
        fault(d, "d;b01;b01;b01;b01;b01", 17);
        fault(d, "d;b01;b01;b01;b01;b01:b01", 17);
        fault(d, "d;b01;b01;b01;b01;x", 17);
    }

    private static void aSemicolonBehindSide1(Due d) {
        fault(d, "d;b01:b01;", 9);
        fault(d, "d;b01:b01;b01", 9);
        fault(d, "d;b01:b01;b01:b01", 9);
        fault(d, "d;b01;b01:b01:b01;b01", 17);
        fault(d, LONGEST + ";", 33);
    }

    /** Each beginning of the longest TEXT: taken where SIDE 1 has a whole BOY at its end, else too short. */
    private static void endsTooSoon(Due d) {
        for (int length = 0; length <= LONGEST.length(); length++) {
            boolean whole = length >= 21 && length % 4 == 1;
            taken(d, LONGEST.substring(0, length), whole ? (length - 1) / 4 : -100 - length);
        }
    }

    /** One code of a TEXT is another one: what is taken, what is the first fault, what is one just later. */
    private static void everyCodeAtEveryPlace(Due d) {
        String text = "d;b12:t21";
        String[] fit = {"d", ";", "btu", "0123", "123", ":", "btu", "0123", "123"};
        for (int place = 0; place < text.length(); place++) {
            for (int code = -128; code < 128; code++) {
                PillowRows x = new PillowRows();
                Due.write(x, 1, 0, text);
                x.put(1, place, code);
                int want = code > 0 && fit[place].indexOf(code) >= 0 ? 2 : -100 - place;
                // a second BOY of SIDE 0 goes on, and has SIDE 1 left out
                want = place == 5 && code == ';' ? -109 : want;
                d.due("code " + code + " at " + place, x.dorms(1, 0, 0, 9), want);
            }
        }
    }

    private static void farCodes(Due d) {
        int[] far = {Integer.MIN_VALUE, Integer.MAX_VALUE, 100 + 256, 100 - 256, 100 + 65536, 100 - 65536, -100, 0};
        for (int code : far) {
            PillowRows x = new PillowRows();
            Due.write(x, 2, 2, "d;b12:t21");
            x.put(2, 0, code);
            d.due("int " + code + " for d", x.dorms(2, 2, 0, 9), -100);
            x.put(2, 0, 'd');
            x.put(2, 8, code);
            d.due("int " + code + " for a digit", x.dorms(2, 2, 0, 9), -108);
        }
        PillowRows cut = new PillowRows();
        Due.write(cut, 0, 0, "d;b12:t21");
        cut.put(0, 0, 100 + 256);
        d.due("a byte is cut as it comes", cut.dorms(0, 0, 0, 9), 2);
        Due.write(cut, 1, 1, "d;b12:t21");
        cut.put(1, 0, 100 + 256);
        d.due("a short is not cut to a byte", cut.dorms(1, 1, 0, 9), -100);
        cut.put(1, 0, 100 - 65536);
        d.due("a short is cut as it comes", cut.dorms(1, 1, 0, 9), 2);
    }

    private static void placesOfTheTextNotOfTheSheet(Due d) {
        Bench b = new Bench(d, "text 0 1 dd;b12:t21;", "text 1 2 d;b12:t2");
        b.firstFault("dorms 0 1 0 10", 1);
        b.gives("dorms 0 1 1 9", 2);
        b.firstFault("dorms 0 1 1 10", 9);
        b.firstFault("dorms 0 1 1 8", 8);
        b.firstFault("dorms 0 1 2 9", 0);
        b.firstFault("dorms 0 1 11 0", 0);
        b.firstFault("dorms 1 2 8 0", 0);
    }

    private static void numbersOfDorms(Due d) {
        Bench b = new Bench(d, "text 0 0 xxd;b12:t21yy", "text 1 0 d;b12:t21", "text 2 0 d;b12:t21", "text 3 0 d;b12:t21");
        b.bounds("dorms ? 0 0 9", 0, 3, UNKNOWN);
        b.refuses("dorms 0 -1 2 9", OUTSIDE);
        b.refuses("dorms 0 3 2 9", OUTSIDE);
        b.refuses("dorms 0 min 2 9", OUTSIDE);
        b.refuses("dorms 0 max 2 9", OUTSIDE);
        b.indexBounds("dorms 0 0 ? 9", 0, 4);
        b.indexBounds("dorms 0 0 ? 0", 0, 13);
        b.faults("dorms 0 0 2 12", INDEX);
        b.faults("dorms 0 0 2 max", INDEX);
        b.faults("dorms 0 0 max max", INDEX);
        b.faults("dorms 0 0 13 1", INDEX);
        b.faults("dorms 0 0 2 -1", SIZE);
        b.faults("dorms 0 0 2 min", SIZE);
        b.firstFault("dorms 0 0 2 11", 9);
        b.firstFault("dorms 0 0 2 0", 0);
        b.gives("dorms 0 0 2 9", 2);
    }

    /** 33 codes end with the 60 cells of the longest row; 60 codes are no TEXT. */
    private static void atTheEndOfTheLongestRow(Due d) {
        PillowRows x = new PillowRows();
        x.sheet(0, 0, 60);
        for (int k = 0; k < 33; k++) {
            x.put(0, 27 + k, LONGEST.charAt(k));
        }
        d.due("up to the last cell", x.dorms(0, 0, 27, 33), 8);
        d.due("BEARS in the last cell", x.ofBoy(1, 3, 2), 1);
        d.due("one cell beyond", x.dorms(0, 0, 27, 34), -13);
        d.due("one later", x.dorms(0, 0, 28, 33), -13);
        d.due("one less", x.dorms(0, 0, 27, 32), -132);
        d.due("the whole row", x.dorms(0, 0, 0, 60), -100);
        PillowRows full = new PillowRows();
        Due.write(full, 0, 0, LONGEST + "x".repeat(27));
        d.due("60 codes", full.dorms(0, 0, 0, 60), -133);
    }

    private static void allAnew(Due d) {
        PillowRows x = Due.of(LONGEST);
        x.order(0, 23);
        x.order(1, 23);
        x.tell(0, 0);
        d.due("the same TEXT again", x.dorms(0, 0, 0, 33), 8);
        d.due("ORDER of SIDE 0 is 0", x.many(2), 0);
        d.due("ORDER of SIDE 1 is 0", x.many(3), 0);
        d.due("who stands first", x.stands(0, 0), 0);
        d.due("who stands last", x.stands(1, 3), 3);
        x.order(0, 23);
        x.order(1, 23);
        d.due("fewer", Due.settle(x, "d;u31:b02"), 2);
        d.due("ORDER of SIDE 0 is 0", x.many(2), 0);
        d.due("ORDER of SIDE 1 is 0", x.many(3), 0);
        d.due("BOYS of SIDE 0", x.many(0), 1);
        d.due("BOYS of SIDE 1", x.many(1), 1);
        d.due("his kind", x.ofBoy(0, 0, 0), 2);
        d.due("no other one is left", x.ofBoy(0, 1, 0), UNKNOWN);
        d.due("no other one is left", x.ofBoy(1, 3, 0), UNKNOWN);
        d.due("no other place is left", x.stands(0, 1), UNKNOWN);
        d.due("no other ORDER is left", x.order(0, 1), OUTSIDE);
        d.share("but two fight", x.mean(0, 0, 0), x.mean(0, 0, 1), 1, 1);
        d.due("more again", Due.settle(x, "d;u31;b01:b02:t11"), 4);
        d.due("second of SIDE 0", x.ofBoy(0, 1, 0), 0);
        d.due("ORDER 1 again", x.order(1, 1), 0);
    }

    /** A refused, a faulty call and one with a FIRST FAULT leave BOYS and ORDERS. */
    private static void notTaken(Due d) {
        Bench b = new Bench(d, "text 0 0 d;b11;t22;b02:u33:t13", "dorms 0 0 0 21", "order 0 4", "order 1 1", "tell 1 0",
            "text 0 0 d;t01:b21:b2", "text 1 1 d;t01:b21");
        b.firstFault("dorms 0 0 0 12", 12);
        b.firstFault("dorms 0 0 0 5", 5);
        b.firstFault("dorms 0 0 1 8", 0);
        b.faults("dorms 1 1 0 10", INDEX);
        b.faults("dorms 1 0 0 9", Bench.CAST);
        b.faults("dorms 2 0 0 9", Bench.NULL);
        b.faults("dorms 1 1 0 -1", SIZE);
        b.refuses("dorms 1 3 0 9", OUTSIDE);
        b.refuses("dorms 4 1 0 9", UNKNOWN);
        b.gives("dorms 1 1 0 9", 2);
    }

    private static void apartFromItsSheet(Due d) {
        PillowRows x = Due.of("d;b11;t22:u33");
        x.put(0, 2, 'u');
        d.due("a cell is another one", x.ofBoy(0, 0, 0), 0);
        x.lose(0);
        d.due("its SHEET has nothing", x.ofBoy(1, 0, 0), 2);
        d.due("its SHEET has nothing", x.many(0), 2);
    }

    private static void numbersOfBoys(Due d) {
        Bench b = new Bench(d, "text 0 0 d;b12;t21;u03:b33:t12", "dorms 0 0 0 21");
        Bench ends = new Bench(d, "text 0 0 d;b01:u33", "dorms 0 0 0 9");
        b.bounds("ofBoy ? 0 0", 0, 1, UNKNOWN);
        b.bounds("ofBoy 0 ? 0", 0, 2, UNKNOWN);
        b.bounds("ofBoy 1 ? 0", 0, 1, UNKNOWN);
        b.bounds("ofBoy 1 1 ?", 0, 4, OUTSIDE);
        ends.gives("ofBoy 0 0 1", 0);
        ends.gives("ofBoy 0 0 2", 1);
        ends.gives("ofBoy 0 0 3", 0);
        ends.gives("ofBoy 1 0 1", 3);
        ends.gives("ofBoy 1 0 2", 3);
        ends.gives("ofBoy 1 0 3", 8);
        b.bounds("stands ? 0", 0, 1, UNKNOWN);
        b.bounds("stands 0 ?", 0, 2, UNKNOWN);
        b.bounds("stands 1 ?", 0, 1, UNKNOWN);
        b.bounds("lands ? 0 0", 0, 1, UNKNOWN);
        b.bounds("lands 0 ? 0", 0, 2, UNKNOWN);
        b.bounds("lands 0 0 ?", 0, 1, UNKNOWN);
        b.bounds("lands 1 ? 0", 0, 1, UNKNOWN);
        b.bounds("lands 1 0 ?", 0, 2, UNKNOWN);
    }

    /** 1, 2, 6, 24 ORDERS: the last one is the row turned round. */
    private static void numbersOfOrders(Due d) {
        String others = "";
        int orders = 1;
        for (int boys = 1; boys <= 4; boys++) {
            orders *= boys;
            int length = 5 + 4 * boys;
            Bench of0 = new Bench(d, "text 0 0 d;b01" + others + ":b01", "dorms 0 0 0 " + length);
            Bench of1 = new Bench(d, "text 0 0 d;b01:b01" + others.replace(';', ':'), "dorms 0 0 0 " + length);
            of0.bounds("order 0 ?", 0, orders - 1, OUTSIDE);
            of1.bounds("order 1 ?", 0, orders - 1, OUTSIDE);
            of0.bounds("order 1 ?", 0, 0, OUTSIDE);
            of1.bounds("order 0 ?", 0, 0, OUTSIDE);
            of0.bounds("order ? 0", 0, 1, UNKNOWN);
            PillowRows x = of1.fresh();
            d.due("the last ORDER", x.order(1, orders - 1), 0);
            d.due("the same again", x.order(1, orders - 1), orders - 1);
            for (int place = 0; place < boys; place++) {
                d.due("place " + place + " of the last ORDER", x.stands(1, place), boys - 1 - place);
            }
            d.due("the first again", x.order(1, 0), orders - 1);
            d.due("first of the first", x.stands(1, 0), 0);
            d.due("the other SIDE's stays", x.many(2), 0);
            others += ";t12";
        }
    }

    /** REACHES 0, 1, 2, 3, 4, 8 against each other: 2 and the difference, cut to 1 .. 3. */
    private static void landsNoLessThanOneNoMoreThanThree(Due d) {
        String[] boys = {"b0", "b1", "b2", "b3", "t3", "u3"};
        int[] reaches = {0, 1, 2, 3, 4, 8};
        int[] byDifference = {1, 1, 1, 1, 1, 1, 1, 1, 2, 3, 3, 3, 3, 3, 3, 3, 3};
        for (int a = 0; a < boys.length; a++) {
            for (int b = 0; b < boys.length; b++) {
                PillowRows x = Due.of("d;" + boys[a] + "1:" + boys[b] + "1");
                int due = byDifference[8 + reaches[a] - reaches[b]];
                d.due(boys[a] + " against " + boys[b], x.lands(0, 0, 0), due);
                d.due(boys[b] + " against " + boys[a], x.lands(1, 0, 0), 4 - due);
            }
        }
    }
}
