/** Counts and prints the calls whose answer is not the one that is due. */
final class Due {
    private final String title;
    private int asked;
    private int wrong;

    Due(String title) {
        this.title = title;
    }

    void due(String call, long got, long want) {
        asked++;
        if (got != want) {
            wrong++;
            System.out.println(title + ": " + call + " answered " + got + ", due is " + want);
        }
    }

    void holds(String what, boolean is) {
        due(what, is ? 1 : 0, 1);
    }

    /** A share, told by its upper and its lower number. */
    void share(String call, long upper, long lower, long wantUpper, long wantLower) {
        due(call + " upper", upper, wantUpper);
        due(call + " lower", lower, wantLower);
    }

    /** Writes a text into a SHEET of its length. */
    static void write(PillowRows x, int sheet, int lane, String text) {
        x.sheet(sheet, lane, text.length());
        for (int i = 0; i < text.length(); i++) {
            x.put(sheet, i, text.charAt(i));
        }
    }

    /** Writes a text and takes it as DORMITORIES: what dorms answered. */
    static int settle(PillowRows x, String text) {
        write(x, 0, 0, text);
        return x.dorms(0, 0, 0, text.length());
    }

    /** Writes BLOWS, a digit a cell, as ints into a SHEET. */
    static void writeBlows(PillowRows x, int sheet, String digits) {
        x.sheet(sheet, 2, digits.length());
        for (int i = 0; i < digits.length(); i++) {
            x.put(sheet, i, digits.charAt(i) - '0');
        }
    }

    static PillowRows of(String text) {
        PillowRows x = new PillowRows();
        settle(x, text);
        return x;
    }

    void end() {
        System.out.println(title + ": " + (asked - wrong) + " of " + asked + " answers as due");
        if (wrong != 0) {
            System.exit(1);
        }
    }
}
