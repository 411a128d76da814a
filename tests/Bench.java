import java.util.List;

/**
 * Objects made alike by told calls, a new one for each question. A twin that was not asked tells whether a
 * refused call changed anything. Behind "text 0 1" stands a TEXT for SHEET 0 as shorts, behind "cells 0 1"
 * the numbers of its cells; all other lines are calls.
 */
final class Bench {
    static final long LOST = Long.MIN_VALUE;
    static final int UNKNOWN = -1, OUTSIDE = -2, STATE = -3;
    static final int NULL = 1, CAST = 2, INDEX = 3, SIZE = 4;

    private static final List<String> NAME_FAULTS =
        List.of("dorms", "blows", "chance", "sheet", "put", "cell", "copy", "as");
    private static final List<String> ANSWER_LONGS =
        List.of("odds", "ahead", "mean", "seen", "without", "chance", "split", "cell");

    private final Due d;
    private final String[] made;

    Bench(Due d, String... made) {
        this.d = d;
        this.made = made;
    }

    /** A TEXT that was taken from SHEET 0 as ints, and calls behind it. */
    static Bench fight(Due d, String text, String... more) {
        String[] made = new String[2 + more.length];
        made[0] = "text 0 2 " + text;
        made[1] = "dorms 0 2 0 " + text.length();
        System.arraycopy(more, 0, made, 2, more.length);
        return new Bench(d, made);
    }

    PillowRows fresh() {
        PillowRows x = new PillowRows();
        for (String line : made) {
            make(x, line.split(" "), line);
        }
        return x;
    }

    private static void make(PillowRows x, String[] parts, String line) {
        if (parts[0].equals("text")) {
            Due.write(x, Integer.parseInt(parts[1]), Integer.parseInt(parts[2]), parts.length > 3 ? parts[3] : "");
        } else if (parts[0].equals("cells")) {
            int sheet = Integer.parseInt(parts[1]);
            x.sheet(sheet, Integer.parseInt(parts[2]), parts.length - 3);
            for (int k = 3; k < parts.length; k++) {
                Ask.of(x, "put " + sheet + " " + (k - 3) + " " + parts[k]);
            }
        } else {
            Ask.of(x, line);
        }
    }

    private static String nameOf(String line) {
        return line.split(" ")[0];
    }

    /** Leaves another FAULT than the one that is due, so that a fault() which was left alone is seen. */
    private static void leaveFault(PillowRows x, int due) {
        if (due == SIZE) {
            x.put(0, -1, 0);
        } else {
            x.sheet(0, 0, -1);
        }
    }

    private static int faultBehind(PillowRows x, String line) {
        return NAME_FAULTS.contains(nameOf(line)) ? 0 : x.fault();
    }

    /** It is answered, and comes to no FAULT. */
    void gives(String line, long want) {
        PillowRows x = fresh();
        leaveFault(x, 0);
        int behind = faultBehind(x, line);
        d.due(line, Ask.of(x, line), want);
        d.due("fault() behind " + line, x.fault(), behind);
    }

    /** A share: the line without its last number, which. */
    void givesShare(String line, long upper, long lower) {
        gives(line + " 0", upper);
        gives(line + " 1", lower);
    }

    /** It is refused by this answer; nothing is another one behind it, but fault() of a call that names FAULTS. */
    void refuses(String line, long want) {
        PillowRows x = fresh();
        leaveFault(x, 0);
        int behind = faultBehind(x, line);
        unchanged(x, line, want, behind);
    }

    /** It comes to a FAULT; nothing is another one behind it, but fault(). */
    void faults(String line, int fault) {
        PillowRows x = fresh();
        leaveFault(x, fault);
        unchanged(x, line, ANSWER_LONGS.contains(nameOf(line)) ? LOST : -10 - fault, fault);
    }

    /** A TEXT that is not taken: it comes to no FAULT, and all stays as it was. */
    void firstFault(String line, int place) {
        PillowRows x = fresh();
        leaveFault(x, 0);
        unchanged(x, line, -100 - place, 0);
    }

    private void unchanged(PillowRows x, String line, long want, int fault) {
        d.due(line, Ask.of(x, line), want);
        d.due("fault() behind " + line, x.fault(), fault);
        String was = Look.at(fresh());
        String is = Look.at(x);
        d.holds(line + " changes nothing, but it was " + was + " and is " + is, was.equals(is));
    }

    /** The number at ? is taken from least to most; just and far outside it is refused. */
    void bounds(String line, int least, int most, long refusal) {
        inside(line, least, most, refusal);
        for (String v : outside(least, most)) {
            refuses(line.replace("?", v), refusal);
        }
    }

    /** The number at ? is taken from least to most; just and far outside it is an INDEX. */
    void indexBounds(String line, int least, int most) {
        inside(line, least, most, ANSWER_LONGS.contains(nameOf(line)) ? LOST : -10 - INDEX);
        for (String v : outside(least, most)) {
            faults(line.replace("?", v), INDEX);
        }
    }

    private void inside(String line, int least, int most, long refusal) {
        for (int v : new int[] {least, most}) {
            String inside = line.replace("?", Integer.toString(v));
            d.holds(inside + " is taken", Ask.of(fresh(), inside) != refusal);
        }
    }

    static String[] outside(int least, int most) {
        return new String[] {Integer.toString(least - 1), Integer.toString(most + 1), "min", "max"};
    }
}
