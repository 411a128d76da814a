/**
 * "Terms", ahead of its parts: which of several REFUSALS and FAULTS is told, that a refused call changes
 * nothing, i where none of the cells is taken, shares in least terms.
 */
public final class TermsBoundsTest {
    private static final long LOST = Bench.LOST;
    private static final int UNKNOWN = Bench.UNKNOWN, OUTSIDE = Bench.OUTSIDE;
    private static final int NULL = Bench.NULL, CAST = Bench.CAST, INDEX = Bench.INDEX, SIZE = Bench.SIZE;

    /** Three against two; SHEET 0 has bytes, 1 shorts (one is not 0, 1), 2 a row of no ints, 3 nothing. */
    private static final String[] MADE = {"text 0 0 d;b12;t21;u03:b33:t12", "dorms 0 0 0 21", "order 0 3", "order 1 1",
        "tell 0 2", "name 1 1", "cells 1 1 0 1 2 1 -7", "sheet 2 2 0"};

    public static void main(String[] args) {
        Due d = new Due("terms at their bounds");
        Bench with = new Bench(d, MADE);
        refusalsOfDormitories(with);
        refusalsOfOdds(with);
        refusalsOfOrders(with);
        refusalsOfBlows(with);
        refusalsOfWaysRound(with);
        refusalsOfSheets(with);
        refusalsOfKinds(with);
        faultsInTheOrderTold(with);
        noneOfThemIsTaken(with);
        leastTerms(d);
        d.end();
    }

    private static void refusalsOfDormitories(Bench with) {
        with.refuses("dorms -1 3 -1 -1", UNKNOWN);
        with.refuses("dorms 4 -1 99 99", UNKNOWN);
        with.refuses("dorms 3 3 -1 -1", OUTSIDE);
        with.refuses("dorms 0 -1 -1 -1", OUTSIDE);
        with.firstFault("dorms 0 0 1 20", 0);
        with.firstFault("dorms 0 0 0 13", 13);
        with.firstFault("dorms 1 1 0 0", 0);
        with.refuses("ofBoy 2 3 5", UNKNOWN);
        with.refuses("ofBoy 0 3 5", UNKNOWN);
        with.refuses("ofBoy 1 2 -1", UNKNOWN);
        with.refuses("ofBoy 1 1 5", OUTSIDE);
        with.refuses("order 2 6", UNKNOWN);
        with.refuses("order -1 -1", UNKNOWN);
        with.refuses("order 0 6", OUTSIDE);
        with.refuses("order 1 2", OUTSIDE);
        with.refuses("stands 2 3", UNKNOWN);
        with.refuses("stands 1 2", UNKNOWN);
        with.refuses("lands 2 0 0", UNKNOWN);
        with.refuses("lands 0 0 2", UNKNOWN);
    }

    private static void refusalsOfOdds(Bench with) {
        with.refuses("odds 13 4 2", LOST);
        with.refuses("odds 12 4 1", LOST);
        with.refuses("ahead 12 3 1", LOST);
        with.refuses("mean 2 13 2", LOST);
        with.refuses("mean 0 12 2", LOST);
        with.refuses("seen 12 5 5 2", LOST);
        with.refuses("seen 12 4 4 2", LOST);
    }

    private static void refusalsOfOrders(Bench with) {
        with.refuses("best 2 13", UNKNOWN);
        with.refuses("best 1 13", OUTSIDE);
        with.refuses("safe -1 -1", UNKNOWN);
        with.refuses("safe 0 -1", OUTSIDE);
        with.refuses("likely 2 13 5 5", UNKNOWN);
        with.refuses("likely 2 12 5 0", UNKNOWN);
        with.refuses("likely 2 12 0 5", UNKNOWN);
        with.refuses("likely 0 12 5 0", OUTSIDE);
        with.refuses("likely 0 12 0 5", OUTSIDE);
        with.refuses("without 2 3 13 2", LOST);
        with.refuses("without 0 3 12 1", LOST);
        with.refuses("without 0 0 13 1", LOST);
        with.refuses("without 0 0 12 2", LOST);
    }

    private static void refusalsOfBlows(Bench with) {
        with.refuses("blows 4 3 -1 31", UNKNOWN);
        with.refuses("blows -1 0 0 0", UNKNOWN);
        with.refuses("blows 3 3 -1 0", OUTSIDE);
        with.refuses("blows 3 0 -1 31", OUTSIDE);
        with.refuses("blows 1 0 -1 -1", OUTSIDE);
        with.refuses("blows 1 1 2 1", OUTSIDE);
        with.refuses("blows 1 1 1 1", OUTSIDE);
        with.refuses("chance 4 1 0 1 0", LOST);
        with.refuses("chance 3 3 -1 0 0", LOST);
        with.refuses("chance 3 0 -1 13 0", LOST);
        with.refuses("chance 1 0 -1 -1 0", LOST);
        with.refuses("chance 1 0 -1 1 2", LOST);
        with.refuses("chance 3 0 -1 1 -1", LOST);
        with.refuses("chance 1 1 2 1 0", LOST);
    }

    private static void refusalsOfWaysRound(Bench with) {
        with.refuses("split 7 8 4 2", LOST);
        with.refuses("split 6 8 0 0", LOST);
        with.refuses("split 6 0 4 0", LOST);
        with.refuses("split 6 7 3 2", LOST);
        with.refuses("send 7 4", OUTSIDE);
        with.refuses("send 6 4", OUTSIDE);
    }

    private static void refusalsOfSheets(Bench with) {
        with.refuses("sheet 4 3 -1", UNKNOWN);
        with.refuses("sheet -1 0 61", UNKNOWN);
        with.refuses("sheet 0 3 -1", OUTSIDE);
        with.refuses("sheet 0 -1 60", OUTSIDE);
        with.refuses("sheet 0 0 61", OUTSIDE);
        with.refuses("lose 4", UNKNOWN);
        with.refuses("lose -1", UNKNOWN);
        with.refuses("put 4 -1 0", UNKNOWN);
        with.refuses("cell 4 -1 3", LOST);
        with.refuses("cell 3 -1 3", LOST);
        with.refuses("copy 4 -1 3 -1 -1", UNKNOWN);
        with.refuses("copy 3 -1 4 -1 -1", UNKNOWN);
    }

    private static void refusalsOfKinds(Bench with) {
        with.refuses("tell 0 3", UNKNOWN);
        with.refuses("tell 2 0", UNKNOWN);
        with.refuses("name 0 3", UNKNOWN);
        with.refuses("name 2 0", UNKNOWN);
        with.refuses("as 2 0 3", UNKNOWN);
        with.refuses("as 0 3 3", UNKNOWN);
        with.refuses("as 0 0 3", OUTSIDE);
        with.refuses("many 4", OUTSIDE);
    }

    private static void faultsInTheOrderTold(Bench with) {
        with.faults("dorms 0 1 -1 -1", CAST);
        with.faults("dorms 2 0 9 9", CAST);
        with.faults("dorms 3 1 -1 -1", NULL);
        with.faults("dorms 3 0 0 0", NULL);
        with.faults("dorms 0 0 -1 -1", SIZE);
        with.faults("dorms 0 0 99 min", SIZE);
        with.faults("dorms 0 0 1 21", INDEX);
        with.faults("blows 1 0 -1 1", CAST);
        with.faults("blows 3 0 -1 1", NULL);
        with.faults("blows 1 1 4 1", INDEX);
        with.faults("blows 1 1 2 2", INDEX);
        with.faults("chance 1 0 -1 1 0", CAST);
        with.faults("chance 3 0 -1 1 0", NULL);
        with.faults("chance 1 1 2 2 0", INDEX);
        with.faults("sheet 3 2 -1", SIZE);
        with.faults("sheet 0 2 min", SIZE);
        with.faults("put 3 -1 5", NULL);
        with.faults("put 2 0 5", INDEX);
        with.faults("cell 0 99 1", CAST);
        with.faults("cell 3 99 1", NULL);
        with.faults("cell 0 21 0", INDEX);
        with.faults("copy 3 -1 0 -1 -1", NULL);
        with.faults("copy 0 -1 3 -1 -1", NULL);
        with.faults("copy 3 0 3 0 0", NULL);
        with.faults("copy 3 0 1 0 0", NULL);
        with.faults("copy 1 0 3 0 0", NULL);
        with.faults("copy 2 0 3 9 9", NULL);
        with.faults("copy 0 -1 1 -1 -1", CAST);
        with.faults("copy 1 0 2 0 0", CAST);
        with.faults("copy 0 0 0 0 -1", INDEX);
        with.faults("as 0 0 1", CAST);
        with.faults("as 1 1 2", CAST);
    }

    /** "also where i is not 0 .. how many there are, if none of them is taken, too" */
    private static void noneOfThemIsTaken(Bench with) {
        with.indexBounds("dorms 0 0 ? 0", 0, 21);
        with.indexBounds("dorms 2 2 ? 0", 0, 0);
        with.indexBounds("blows 1 1 ? 0", 0, 5);
        with.indexBounds("blows 2 2 ? 0", 0, 0);
        with.indexBounds("chance 1 1 ? 0 0", 0, 5);
        with.indexBounds("chance 2 2 ? 0 1", 0, 0);
        with.indexBounds("copy 1 ? 1 0 0", 0, 5);
        with.indexBounds("copy 1 0 1 ? 0", 0, 5);
        with.indexBounds("copy 2 ? 2 0 0", 0, 0);
        with.indexBounds("copy 2 0 2 ? 0", 0, 0);
        with.firstFault("dorms 0 0 21 0", 0);
        with.gives("blows 1 1 5 0", 0);
        with.givesShare("chance 1 1 5 0", 1, 1);
        with.gives("copy 1 5 1 5 0", 0);
    }

    /** The lower number is above 0, and no number but 1 goes into both: of a power of 2 and an odd number. */
    private static void leastTerms(Due d) {
        String[] calls = {"odds 12 0", "odds 12 2", "odds 5 3", "odds 0 0", "odds 0 3", "ahead 12 0", "ahead 7 1", "mean 0 12",
            "mean 1 3", "mean 0 0", "seen 12 1 1", "seen 4 2 0", "seen 4 4 4", "without 0 1 12", "without 1 0 6",
            "split 6 3 1", "split 6 0 0", "split 0 0 0", "chance 3 2 0 12", "chance 3 2 0 1", "chance 3 2 0 0"};
        PillowRows x = Due.of("d;b12;t21;u03;t33:b33:t12:u01");
        x.sheet(3, 2, 24);
        for (String call : calls) {
            long upper = Ask.of(x, call + " 0");
            long lower = Ask.of(x, call + " 1");
            d.holds(call + ": lower number above 0", lower > 0);
            d.holds(call + ": upper number not below 0", upper >= 0);
            d.due(call + ": lower is a power of 2", Long.bitCount(lower), 1);
            d.holds(call + ": least terms", lower == 1 || upper % 2 == 1);
        }
        d.share("none at all", x.odds(0, 0, 0), x.odds(0, 0, 1), 0, 1);
        d.share("the whole", x.odds(0, 3, 0), x.odds(0, 3, 1), 1, 1);
        d.share("more than the whole", x.mean(0, 0, 0), x.mean(0, 0, 1), 4, 1);
    }
}
