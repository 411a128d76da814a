import java.util.List;
import java.util.Map;

/**
 * "Nothing is promised beyond the answers and state changes described": a call that but answers changes nothing,
 * one that changes something nothing else, no call anything of another object, and the 512th is as the first.
 */
public final class ChangesTest {
    /** Three against two; SHEET 0 has the TEXT as bytes, 1 BLOWS as ints, 2 ints, 3 nothing. */
    private static final String[] MADE = {"text 0 0 d;b12;t21;u03:b33:t12", "dorms 0 0 0 21", "order 0 3", "order 1 1",
        "tell 0 2", "cells 1 2 0 1 1 0", "cells 2 2 7 8 9"};

    /** An answer of each call that changes nothing, fault() of those that name FAULTS set aside. */
    private static final String[] ANSWERS = {"ofBoy 0 2 3", "ofBoy 1 1 4", "stands 0 2", "stands 1 0", "lands 0 1 1",
        "lands 1 0 2", "odds 12 0 0", "odds 5 3 1", "ahead 12 2 0", "ahead 3 1 1", "mean 0 12 0", "mean 1 4 1", "seen 12 1 1 0",
        "seen 6 3 2 1", "best 0 12", "best 1 5", "safe 0 12", "safe 1 5", "likely 0 12 2 1", "likely 1 6 1 1",
        "without 0 1 12 0", "without 1 0 6 1", "blows 1 2 0 2", "blows 1 2 4 0", "chance 1 2 0 2 0", "chance 1 2 2 1 1",
        "split 6 5 1 0", "split 3 0 3 1", "send 6 2", "send 0 0", "cell 2 1 2", "as 0 2 1", "as 1 0 0", "trace", "fault",
        "many 0", "many 3", "lose 3", "sheet 3 0 -1", "copy 2 3 2 3 0", "order 0 3", "put 2 0 7", "copy 2 0 2 0 3"};

    public static void main(String[] args) {
        Due d = new Due("changes");
        answersChangeNothing(d);
        nothingElseIsChanged(d);
        aRowOfOneSheetAlone(d);
        answersAreAsTheyWere(d);
        objectsInTurns(d);
        toTheLastCall(d);
        d.end();
    }

    private static PillowRows fresh(Due d) {
        return new Bench(d, MADE).fresh();
    }

    private static void answersChangeNothing(Due d) {
        String was = Look.at(fresh(d));
        for (String line : ANSWERS) {
            PillowRows x = fresh(d);
            Ask.of(x, line);
            String is = Look.at(x);
            d.holds(line + " changes nothing, but it was " + was + " and is " + is, was.equals(is));
        }
    }

    private static void nothingElseIsChanged(Due d) {
        changesOnly(d, "dorms 0 0 0 17", "SIDE 0", "SIDE 1");
        changesOnly(d, "dorms 0 0 0 21", "SIDE 0", "SIDE 1");
        changesOnly(d, "order 0 5", "SIDE 0");
        changesOnly(d, "order 1 0", "SIDE 1");
        changesOnly(d, "sheet 0 0 21", "SHEET 0");
        changesOnly(d, "sheet 3 1 0", "SHEET 3");
        changesOnly(d, "lose 0", "SHEET 0");
        changesOnly(d, "lose 2", "SHEET 2");
        changesOnly(d, "put 0 2 116", "SHEET 0");
        changesOnly(d, "put 2 2 1", "SHEET 2");
        changesOnly(d, "copy 1 1 2 0 2", "SHEET 2");
        changesOnly(d, "copy 2 0 2 1 2", "SHEET 2");
        changesOnly(d, "copy 2 1 1 0 2", "SHEET 1");
        changesOnly(d, "tell 0 0", "TRACE");
        changesOnly(d, "tell 1 1", "TRACE");
        changesOnly(d, "name 0 2", "TRACE");
        changesOnly(d, "name 1 0", "TRACE");
    }

    private static void changesOnly(Due d, String line, String... changed) {
        Map<String, String> was = Look.parts(fresh(d));
        PillowRows x = fresh(d);
        Ask.of(x, line);
        Map<String, String> is = Look.parts(x);
        for (String part : was.keySet()) {
            boolean same = was.get(part).equals(is.get(part));
            boolean may = List.of(changed).contains(part);
            d.holds(line + (may ? " changes " : " leaves ") + part + ", which is" + is.get(part), same != may);
        }
    }

    /** But the told cell of the told SHEET, and but n cells from j on. */
    private static void aRowOfOneSheetAlone(Due d) {
        for (int lane = 0; lane < 3; lane++) {
            for (int i = 0; i < 5; i++) {
                PillowRows x = new Bench(d, "cells 1 " + lane + " 1 2 3 4 5", "cells 2 " + lane + " 6 7 8 9 10").fresh();
                d.due("put " + i, x.put(1, i, -3), 1);
                for (int c = 0; c < 5; c++) {
                    d.due("cell " + c + " behind put " + i, x.cell(1, c, lane), c == i ? -3 : c + 1);
                }
                int n = 5 - i;
                d.due("copy " + n, x.copy(2, 0, 1, i, n), n);
                for (int c = i; c < 5; c++) {
                    d.due("cell " + c + " behind copy to " + i, x.cell(1, c, lane), 6 + c - i);
                }
                for (int c = 0; c < i; c++) {
                    d.due("cell " + c + " ahead of copy to " + i, x.cell(1, c, lane), c + 1);
                }
            }
        }
    }

    /** Each answer is the same whatever but answered ahead of it: fights leave nothing for the next one. */
    private static void answersAreAsTheyWere(Due d) {
        for (String ahead : ANSWERS) {
            PillowRows x = fresh(d);
            for (String line : ANSWERS) {
                if (isQuestion(line)) {
                    Ask.of(x, ahead);
                    long due = Ask.of(fresh(d), line);
                    d.due(line + " behind " + ahead, Ask.of(x, line), due);
                }
            }
        }
    }

    private static boolean isQuestion(String line) {
        return !line.equals("fault");
    }

    /** One object's calls between another one's: each answers as if it were alone. */
    private static void objectsInTurns(Due d) {
        PillowRows one = fresh(d);
        PillowRows other = Bench.fight(d, "d;u33;b01:t11:b22:u01", "cells 1 2 1 1 0 0", "order 1 4").fresh();
        PillowRows oneAlone = fresh(d);
        for (String line : ANSWERS) {
            Ask.of(other, line);
            Ask.of(other, "tell 0 0");
            d.due(line + " in turns", Ask.of(one, line), Ask.of(oneAlone, line));
        }
        d.holds("one is as if alone", Look.at(one).equals(Look.at(oneAlone)));
    }

    /** "at most 512 calls": the last of them still answers. */
    private static void toTheLastCall(Due d) {
        PillowRows x = Due.of("d;u33;b23;t13;b03:b33:u03:t23:b13");
        int made = 1 + 33 + 1;
        long first = x.odds(12, 0, 0);
        int safest = x.safe(0, 12);
        made += 2;
        for (int k = made; k < 509; k++) {
            x.best(k % 2, k % 13);
        }
        d.due("call 510", x.safe(0, 12), safest);
        d.due("call 511", x.dorms(0, 0, 0, 33), 8);
        d.due("call 512", x.odds(12, 0, 0), first);
    }
}
