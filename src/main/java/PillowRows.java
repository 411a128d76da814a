import java.util.Arrays;

/** Pillow fights of two dormitories in a corridor; ../shared/DOC.md tells what each call answers. */
public final class PillowRows {
    public static final int UNKNOWN = -1, OUTSIDE = -2, STATE = -3;
    public static final long LOST = Long.MIN_VALUE;

    private static final int NULL = 1, CAST = 2, INDEX = 3, SIZE = 4;
    private static final int SHEETS = 4, LANES = 3, MOST_CELLS = 60;
    private static final int MOST_BOYS = 4, MOST_BEARS = 3;
    private static final int MOST_ROUNDS = 12, MOST_SPLIT_ROUNDS = 6, MOST_BLOWS = 30;
    private static final int EVERYBODY = -1;
    private static final int QUARTERS = 4;
    private static final int TALL = 1, BULLY = 2;

    /** What of a fight's ends is weighed: how it ended, who leads, how many stay, how many are OUT. */
    private static final int ENDS = 0, LEADS = 1, STAYS = 2, OUTS = 3;

    private final Sheet[] sheets = new Sheet[SHEETS];
    private final Dorm dorm0 = new Dorm();
    private final Dorm dorm1 = new Dorm();
    private final Corridor corridor = new Corridor();
    private final Trail trail = new Trail();
    private int latestFault;

    public PillowRows() {
        for (int k = 0; k < SHEETS; k++) {
            sheets[k] = new Sheet();
        }
    }

    // ---- 1 dormitories

    public int dorms(int sheet, int lane, int i, int n) {
        latestFault = 0;
        Sheet text = sheetOf(sheet);
        if (text == null) {
            return UNKNOWN;
        }
        if (!isUpTo(lane, LANES - 1)) {
            return OUTSIDE;
        }
        int found = text.faultOfTaking(lane, i, n);
        if (found != 0) {
            return faulted(found);
        }
        int bad = Text.firstFault(text, i, n);
        if (bad >= 0) {
            return -100 - bad;
        }
        dorm0.settle(text, i, n, Text.MARK_0);
        dorm1.settle(text, i, n, Text.MARK_1);
        return dorm0.boyCount + dorm1.boyCount;
    }

    public int ofBoy(int side, int k, int what) {
        Boy boy = boyOf(side, k);
        if (boy == null) {
            return UNKNOWN;
        }
        switch (what) {
            case 0:
                return boy.kind();
            case 1:
                return boy.reach;
            case 2:
                return boy.bears;
            case 3:
                return boy.reaches();
            case 4:
                return boy.weight();
            default:
                return OUTSIDE;
        }
    }

    public int order(int side, int v) {
        Dorm dorm = dormOf(side);
        if (dorm == null) {
            return UNKNOWN;
        }
        if (!isTold()) {
            return STATE;
        }
        if (!isUpTo(v, dorm.orderCount() - 1)) {
            return OUTSIDE;
        }
        int was = dorm.orderNow;
        dorm.orderNow = v;
        return was;
    }

    public int stands(int side, int place) {
        Dorm dorm = dormOf(side);
        if (dorm == null || !isUpTo(place, dorm.boyCount - 1)) {
            return UNKNOWN;
        }
        return dorm.standing(dorm.orderNow, place);
    }

    public int lands(int side, int k, int other) {
        Boy striker = boyOf(side, k);
        Boy struck = boyOf(1 - side, other);
        if (striker == null || struck == null) {
            return UNKNOWN;
        }
        return quartersOf(striker.reaches(), struck.reaches());
    }

    // ---- 2 odds

    public long odds(int n, int what, int which) {
        if (!isUpTo(n, MOST_ROUNDS) || !isUpTo(what, 3) || !isUpTo(which, 1) || !isTold()) {
            return LOST;
        }
        return share(fought(n, ENDS, what, 0), n, which);
    }

    public long ahead(int n, int what, int which) {
        if (!isUpTo(n, MOST_ROUNDS) || !isUpTo(what, 2) || !isUpTo(which, 1) || !isTold()) {
            return LOST;
        }
        return share(fought(n, LEADS, what, 0), n, which);
    }

    public long mean(int side, int n, int which) {
        if (dormOf(side) == null || !isUpTo(n, MOST_ROUNDS) || !isUpTo(which, 1) || !isTold()) {
            return LOST;
        }
        return share(fought(n, STAYS, side, 0), n, which);
    }

    public long seen(int n, int a, int b, int which) {
        if (!isUpTo(n, MOST_ROUNDS) || !isUpTo(a, MOST_BOYS) || !isUpTo(b, MOST_BOYS)) {
            return LOST;
        }
        if (!isUpTo(which, 1) || !isTold()) {
            return LOST;
        }
        return share(fought(n, OUTS, a, b), n, which);
    }

    // ---- 3 orders

    public int best(int side, int n) {
        int refusal = refusalOfChoice(side, n);
        return refusal != 0 ? refusal : orderOfMost(side, n, ENDS, side, 0);
    }

    public int safe(int side, int n) {
        int refusal = refusalOfChoice(side, n);
        return refusal != 0 ? refusal : safestOrder(side, n);
    }

    public int likely(int side, int n, int a, int b) {
        if (dormOf(side) == null) {
            return UNKNOWN;
        }
        if (!isUpTo(a, MOST_BOYS) || !isUpTo(b, MOST_BOYS)) {
            return OUTSIDE;
        }
        int refusal = refusalOfChoice(side, n);
        return refusal != 0 ? refusal : orderOfMost(side, n, OUTS, a, b);
    }

    public long without(int side, int k, int n, int which) {
        Dorm dorm = dormOf(side);
        if (dorm == null || dorm.boyAt(k) == null) {
            return LOST;
        }
        if (!isUpTo(n, MOST_ROUNDS) || !isUpTo(which, 1) || dorm.boyCount == 1) {
            return LOST;
        }
        corridor.lineOf(side).form(dorm, dorm.orderNow, ~(1 << k));
        lineUp(1 - side);
        corridor.fight(n);
        return share(corridor.weigh(ENDS, side, 0), n, which);
    }

    // ---- 4 blows, ways round

    public int blows(int sheet, int lane, int i, int n) {
        int refusal = refusalOfBlows(sheet, lane, n, MOST_BLOWS);
        if (refusal != 0) {
            return refusal;
        }
        refusal = refusalOfCells(sheet, lane, i, n);
        if (refusal != 0) {
            return refusal;
        }
        int row = strikeAll(sheetOf(sheet), i, n);
        return row < n ? -100 - row : corridor.outcome();
    }

    public long chance(int sheet, int lane, int i, int n, int which) {
        int refusal = refusalOfBlows(sheet, lane, n, MOST_ROUNDS);
        // which is told ahead of the cells: where it is refused, no FAULT is come to
        if (refusal != 0 || !isUpTo(which, 1)) {
            return LOST;
        }
        if (refusalOfCells(sheet, lane, i, n) != 0) {
            return LOST;
        }
        int row = strikeAll(sheetOf(sheet), i, n);
        return share(row < n ? 0L : corridor.walkWays, n, which);
    }

    public long split(int n, int set, int other, int which) {
        if (!isUpTo(n, MOST_SPLIT_ROUNDS) || !isTold() || !isUpTo(which, 1)) {
            return LOST;
        }
        if (!dorm0.hasAll(set) || !dorm1.hasAll(other)) {
            return LOST;
        }
        return share(wonBothWays(n, set, other), 2 * n, which);
    }

    public int send(int n, int other) {
        if (!isUpTo(n, MOST_SPLIT_ROUNDS)) {
            return OUTSIDE;
        }
        if (!isTold()) {
            return STATE;
        }
        if (!dorm1.hasAll(other)) {
            return OUTSIDE;
        }
        int found = 0;
        long most = -1L;
        for (int set = 0; set <= dorm0.everyone(); set++) {
            long ways = wonBothWays(n, set, other);
            if (ways > most) {
                most = ways;
                found = set;
            }
        }
        return found;
    }

    // ---- 5 sheets, parts

    public int sheet(int k, int lane, int n) {
        latestFault = 0;
        Sheet page = sheetOf(k);
        if (page == null) {
            return UNKNOWN;
        }
        if (!isUpTo(lane, LANES - 1) || n > MOST_CELLS) {
            return OUTSIDE;
        }
        if (n < 0) {
            return faulted(SIZE);
        }
        page.renew(lane, n);
        return 1;
    }

    public int lose(int k) {
        Sheet page = sheetOf(k);
        if (page == null) {
            return UNKNOWN;
        }
        int had = page.hasRow ? 1 : 0;
        page.hasRow = false;
        return had;
    }

    public int put(int k, int i, int v) {
        latestFault = 0;
        Sheet page = sheetOf(k);
        if (page == null) {
            return UNKNOWN;
        }
        // taken as what it is, so that no CAST can come
        int found = page.faultOfTaking(page.laneNow, i, 1);
        if (found != 0) {
            return faulted(found);
        }
        page.write(i, v);
        return 1;
    }

    public long cell(int k, int i, int lane) {
        latestFault = 0;
        Sheet page = sheetOf(k);
        if (page == null || !isUpTo(lane, LANES - 1)) {
            return LOST;
        }
        int found = page.faultOfTaking(lane, i, 1);
        if (found != 0) {
            faulted(found);
            return LOST;
        }
        return page.read(i);
    }

    public int copy(int k, int i, int other, int j, int n) {
        latestFault = 0;
        Sheet from = sheetOf(k);
        Sheet to = sheetOf(other);
        if (from == null || to == null) {
            return UNKNOWN;
        }
        if (!from.hasRow || !to.hasRow) {
            return faulted(NULL);
        }
        if (from.laneNow != to.laneNow) {
            return faulted(CAST);
        }
        if (!from.spans(i, n) || !to.spans(j, n)) {
            return faulted(INDEX);
        }
        System.arraycopy(from.cells, i, to.cells, j, n);
        return n;
    }

    public int tell(int side, int k) {
        Boy boy = boyOf(side, k);
        return boy == null ? UNKNOWN : boy.telling(trail);
    }

    public int name(int side, int k) {
        Boy boy = boyOf(side, k);
        return boy == null ? UNKNOWN : boy.called(trail);
    }

    public int as(int side, int k, int kind) {
        latestFault = 0;
        Boy boy = boyOf(side, k);
        if (boy == null) {
            return UNKNOWN;
        }
        if (!isUpTo(kind, BULLY)) {
            return OUTSIDE;
        }
        return isOfKind(boy, kind) ? 1 : faulted(CAST);
    }

    public int trace() {
        return trail.left;
    }

    public int fault() {
        return latestFault;
    }

    public int many(int what) {
        switch (what) {
            case 0:
                return dorm0.boyCount;
            case 1:
                return dorm1.boyCount;
            case 2:
                return dorm0.orderNow;
            case 3:
                return dorm1.orderNow;
            default:
                return OUTSIDE;
        }
    }

    // ---- what is there, what is refused

    private static boolean isUpTo(int number, int most) {
        return number >= 0 && number <= most;
    }

    private boolean isTold() {
        return dorm0.boyCount > 0 && dorm1.boyCount > 0;
    }

    private Dorm dormOf(int side) {
        if (side == 0) {
            return dorm0;
        }
        return side == 1 ? dorm1 : null;
    }

    private Boy boyOf(int side, int k) {
        Dorm dorm = dormOf(side);
        return dorm == null ? null : dorm.boyAt(k);
    }

    private Sheet sheetOf(int k) {
        return k >= 0 && k < sheets.length ? sheets[k] : null;
    }

    private static boolean isOfKind(Boy boy, int kind) {
        if (kind == TALL) {
            return boy instanceof Tall;
        }
        return kind == BULLY ? boy instanceof Bully : boy != null;
    }

    private int faulted(int which) {
        latestFault = which;
        return -10 - which;
    }

    private int refusalOfChoice(int side, int n) {
        if (dormOf(side) == null) {
            return UNKNOWN;
        }
        if (!isUpTo(n, MOST_ROUNDS)) {
            return OUTSIDE;
        }
        return isTold() ? 0 : STATE;
    }

    private int refusalOfBlows(int sheet, int lane, int n, int most) {
        latestFault = 0;
        if (sheetOf(sheet) == null) {
            return UNKNOWN;
        }
        if (!isUpTo(lane, LANES - 1) || !isUpTo(n, most)) {
            return OUTSIDE;
        }
        return isTold() ? 0 : STATE;
    }

    private int refusalOfCells(int sheet, int lane, int i, int n) {
        Sheet page = sheetOf(sheet);
        if (page == null) {
            return UNKNOWN;
        }
        int found = page.faultOfTaking(lane, i, 2 * n);
        if (found != 0) {
            return faulted(found);
        }
        for (int c = 0; c < 2 * n; c++) {
            if (!isUpTo(page.read(i + c), 1)) {
                return OUTSIDE;
            }
        }
        return 0;
    }

    // ---- fights

    private static int quartersOf(int reaches, int otherReaches) {
        return Math.max(1, Math.min(3, 2 + reaches - otherReaches));
    }

    /** Every lower number is a power of 16, so least terms need halving alone. */
    private static long share(long upper, int rounds, int which) {
        long up = upper;
        int twos = 4 * rounds;
        for (int k = 0; k < 4 * rounds && (up & 1L) == 0L; k++) {
            up >>= 1;
            twos--;
        }
        return which == 0 ? up : 1L << twos;
    }

    private void lineUp(int side) {
        Dorm dorm = dormOf(side);
        if (dorm != null) {
            corridor.lineOf(side).form(dorm, dorm.orderNow, EVERYBODY);
        }
    }

    private long fought(int n, int ask, int a, int b) {
        lineUp(0);
        lineUp(1);
        corridor.fight(n);
        return corridor.weigh(ask, a, b);
    }

    private int orderOfMost(int side, int n, int ask, int a, int b) {
        Dorm dorm = side == 0 ? dorm0 : dorm1;
        int found = 0;
        long most = -1L;
        lineUp(1 - side);
        for (int v = 0; v < dorm.orderCount(); v++) {
            corridor.lineOf(side).form(dorm, v, EVERYBODY);
            corridor.fight(n);
            long ways = corridor.weigh(ask, a, b);
            if (ways > most) {
                most = ways;
                found = v;
            }
        }
        return found;
    }

    /**
     * An ORDER is given up as soon as one of the other SIDE's holds it down to the most so far; what
     * held the last one down is tried first, as it mostly holds the next one down too.
     */
    private int safestOrder(int side, int n) {
        Dorm mine = side == 0 ? dorm0 : dorm1;
        Dorm theirs = side == 0 ? dorm1 : dorm0;
        int against = theirs.orderCount();
        int found = 0;
        int hardest = 0;
        long most = -1L;
        for (int v = 0; v < mine.orderCount(); v++) {
            corridor.lineOf(side).form(mine, v, EVERYBODY);
            long least = Long.MAX_VALUE;
            int firstTried = hardest;
            for (int t = 0; t < against && least > most; t++) {
                int w = firstTried + t < against ? firstTried + t : firstTried + t - against;
                corridor.lineOf(1 - side).form(theirs, w, EVERYBODY);
                corridor.fight(n);
                long ways = corridor.weigh(ENDS, side, 0);
                if (ways < least) {
                    least = ways;
                    hardest = w;
                }
            }
            if (least > most) {
                most = least;
                found = v;
            }
        }
        return found;
    }

    private int strikeAll(Sheet page, int i, int n) {
        lineUp(0);
        lineUp(1);
        return page == null ? 0 : corridor.walk(page, i, n);
    }

    private long wonBothWays(int n, int set, int other) {
        return wonWay(n, set, other) * wonWay(n, ~set, ~other);
    }

    private long wonWay(int n, int set, int other) {
        corridor.lineOf(0).form(dorm0, dorm0.orderNow, set);
        corridor.lineOf(1).form(dorm1, dorm1.orderNow, other);
        if (corridor.lineOf(1).end == 0) {
            return 1L << (4 * n);
        }
        corridor.fight(n);
        return corridor.weigh(ENDS, 0, 0);
    }

    // ---- the parts

    /** Where bodies leave their numbers as they begin. */
    private static final class Trail {
        int left;

        void leave(int number) {
            left = 31 * left + number;
        }
    }

    /** The body that is lent to all who have none of their own. */
    private interface Named {
        int number();

        default int called(Trail trail) {
            trail.leave(4);
            return number();
        }
    }

    private static class Boy implements Named {
        final int place;
        final int reach;
        final int bears;

        Boy(int place, int reach, int bears) {
            this.place = place;
            this.reach = reach;
            this.bears = bears;
        }

        public int number() {
            return place;
        }

        int kind() {
            return 0;
        }

        int reaches() {
            return reach;
        }

        int weight() {
            return 1;
        }

        int telling(Trail trail) {
            return plainTelling(trail);
        }

        /** A name of its own, so that a BULLY comes to it with TALL's left out. */
        final int plainTelling(Trail trail) {
            trail.leave(1);
            return reach;
        }
    }

    private static class Tall extends Boy {
        Tall(int place, int reach, int bears) {
            super(place, reach, bears);
        }

        int kind() {
            return TALL;
        }

        int reaches() {
            return super.reaches() + 1;
        }

        int telling(Trail trail) {
            trail.leave(2);
            return super.telling(trail) + 100;
        }
    }

    private static final class Bully extends Tall {
        Bully(int place, int reach, int bears) {
            super(place, reach, bears);
        }

        int kind() {
            return BULLY;
        }

        int reaches() {
            return 2 * super.reaches();
        }

        int weight() {
            return 2;
        }

        int telling(Trail trail) {
            trail.leave(3);
            int asTall = super.telling(trail);
            return asTall + plainTelling(trail);
        }

        public int called(Trail trail) {
            trail.leave(5);
            return 80;
        }
    }

    /** Keeps its cells while it has nothing, so that a new row makes no new array. */
    private static final class Sheet {
        final int[] cells = new int[MOST_CELLS];
        boolean hasRow;
        int laneNow;
        int length;

        void renew(int lane, int n) {
            Arrays.fill(cells, 0);
            hasRow = true;
            laneNow = lane;
            length = n;
        }

        boolean spans(int i, int n) {
            return i >= 0 && i <= length && n >= 0 && n <= length - i;
        }

        int faultOfTaking(int lane, int i, int n) {
            if (hasRow && lane != laneNow) {
                return CAST;
            }
            if (!hasRow) {
                return NULL;
            }
            if (n < 0) {
                return SIZE;
            }
            return spans(i, n) ? 0 : INDEX;
        }

        int read(int i) {
            return i >= 0 && i < cells.length ? cells[i] : 0;
        }

        void write(int i, int v) {
            if (i >= 0 && i < cells.length) {
                cells[i] = cut(v);
            }
        }

        private int cut(int v) {
            if (laneNow == 0) {
                return (byte) v;
            }
            return laneNow == 1 ? (short) v : v;
        }
    }

    /** The form of a TEXT: behind its first code each BOY takes four. */
    private static final class Text {
        static final int MARK_0 = ';', MARK_1 = ':';

        /** -1: there is none. */
        static int firstFault(Sheet text, int i, int n) {
            int of0 = 0;
            int of1 = 0;
            for (int at = 0; at < n; at++) {
                int code = text.read(i + at);
                if (at > 0 && ((at - 1) & 3) == 0) {
                    if (code == MARK_0 && of0 < MOST_BOYS && of1 == 0) {
                        of0++;
                    } else if (code == MARK_1 && of0 > 0 && of1 < MOST_BOYS) {
                        of1++;
                    } else {
                        return at;
                    }
                } else if (!fits(code, at)) {
                    return at;
                }
            }
            return of1 > 0 && ((n - 1) & 3) == 0 ? -1 : n;
        }

        private static boolean fits(int code, int at) {
            if (at == 0) {
                return code == 'd';
            }
            switch ((at - 1) & 3) {
                case 1:
                    return code == 'b' || code == 't' || code == 'u';
                case 2:
                    return code >= '0' && code <= '3';
                default:
                    return code >= '1' && code <= '3';
            }
        }
    }

    /** The BOYS of a SIDE. */
    private static final class Dorm {
        private final Boy[] boys = new Boy[MOST_BOYS];
        int boyCount;
        int orderNow;

        /** Takes the BOYS behind its mark from a TEXT without a fault. */
        void settle(Sheet text, int i, int n, int mark) {
            boyCount = 0;
            orderNow = 0;
            for (int at = 1; at < n; at += 4) {
                if (text.read(i + at) == mark && boyCount < boys.length) {
                    int reach = text.read(i + at + 2) - '0';
                    int bears = text.read(i + at + 3) - '0';
                    boys[boyCount] = boyBy(text.read(i + at + 1), boyCount, reach, bears);
                    boyCount++;
                }
            }
        }

        private static Boy boyBy(int letter, int place, int reach, int bears) {
            if (letter == 'u') {
                return new Bully(place, reach, bears);
            }
            return letter == 't' ? new Tall(place, reach, bears) : new Boy(place, reach, bears);
        }

        Boy boyAt(int k) {
            return k >= 0 && k < boyCount && k < boys.length ? boys[k] : null;
        }

        int everyone() {
            return (1 << boyCount) - 1;
        }

        boolean hasAll(int set) {
            return (set & ~everyone()) == 0;
        }

        int orderCount() {
            return rowsOf(boyCount);
        }

        private static int rowsOf(int count) {
            int rows = 1;
            for (int k = 2; k <= count; k++) {
                rows *= k;
            }
            return rows;
        }

        /** Which BOY stands at a place of ORDER v. */
        int standing(int v, int place) {
            int rest = v;
            int taken = 0;
            int boy = 0;
            for (int p = 0; p <= place && p < boyCount; p++) {
                int rows = rowsOf(boyCount - 1 - p);
                int skipped = 0;
                while (skipped < boyCount && rest >= rows) {
                    rest -= rows;
                    skipped++;
                }
                boy = freeBoy(taken, skipped);
                taken |= 1 << boy;
            }
            return boy;
        }

        private int freeBoy(int taken, int skipped) {
            int left = skipped;
            for (int k = 0; k < boyCount; k++) {
                if ((taken & (1 << k)) == 0) {
                    if (left == 0) {
                        return k;
                    }
                    left--;
                }
            }
            return 0;
        }
    }

    /**
     * Those of a SIDE who came to a fight. As but the first one is hit, one number tells how they
     * are: what has been borne by all of them so far (a blow too heavy for one is not passed on).
     */
    private static final class Line {
        static final int MOST_BORNE = MOST_BOYS * MOST_BEARS;

        private final int[] reaches = new int[MOST_BORNE + 1];
        private final int[] weights = new int[MOST_BORNE + 1];
        private final int[] outs = new int[MOST_BORNE + 1];
        private final int[] next = new int[MOST_BORNE + 1];
        int end;
        int count;

        void form(Dorm dorm, int v, int set) {
            end = 0;
            count = 0;
            for (int place = 0; place < dorm.boyCount; place++) {
                int k = dorm.standing(v, place);
                Boy boy = dorm.boyAt(k);
                if (boy != null && (set & (1 << k)) != 0) {
                    enter(boy);
                }
            }
            outs[end] = count;
        }

        private void enter(Boy boy) {
            int behind = end + boy.bears;
            if (behind > MOST_BORNE) {
                return;
            }
            int reached = boy.reaches();
            int weight = boy.weight();
            for (int s = end; s < behind; s++) {
                reaches[s] = reached;
                weights[s] = weight;
                outs[s] = count;
                next[s] = behind;
            }
            end = behind;
            count++;
        }

        private static boolean isBorne(int s) {
            return s >= 0 && s <= MOST_BORNE;
        }

        int reachesAt(int s) {
            return isBorne(s) ? reaches[s] : 0;
        }

        int weightAt(int s) {
            return isBorne(s) ? weights[s] : 0;
        }

        int outAt(int s) {
            return isBorne(s) ? outs[s] : count;
        }

        int leftAt(int s) {
            return count - outAt(s);
        }

        int behindBlow(int s, int weight) {
            return isBorne(s) ? Math.min(s + weight, next[s]) : end;
        }
    }

    /** Two lines, and in how many of all 16 to the ROUNDS ways each of their states is come to. */
    private static final class Corridor {
        private static final int WIDTH = Line.MOST_BORNE + 1;

        private final Line line0 = new Line();
        private final Line line1 = new Line();
        private long[] now = new long[WIDTH * WIDTH];
        private long[] then = new long[WIDTH * WIDTH];
        private int at0;
        private int at1;
        long walkWays;

        Line lineOf(int side) {
            return side == 0 ? line0 : line1;
        }

        void fight(int rounds) {
            Arrays.fill(now, 0L);
            now[0] = 1L;
            for (int r = 0; r < rounds; r++) {
                Arrays.fill(then, 0L);
                round();
                long[] spare = now;
                now = then;
                then = spare;
            }
        }

        private void round() {
            for (int x = 0; x <= line0.end && x < WIDTH; x++) {
                for (int y = 0; y <= line1.end && y < WIDTH; y++) {
                    long ways = now[x * WIDTH + y];
                    if (ways != 0L) {
                        spread(x, y, ways);
                    }
                }
            }
        }

        private void spread(int x, int y, long ways) {
            if (isOver(x, y)) {
                gather(x, y, ways * QUARTERS * QUARTERS);
                return;
            }
            int hit0 = quartersOf(line0.reachesAt(x), line1.reachesAt(y));
            int hit1 = quartersOf(line1.reachesAt(y), line0.reachesAt(x));
            int nextX = line0.behindBlow(x, line1.weightAt(y));
            int nextY = line1.behindBlow(y, line0.weightAt(x));
            gather(nextX, nextY, ways * hit0 * hit1);
            gather(x, nextY, ways * hit0 * (QUARTERS - hit1));
            gather(nextX, y, ways * (QUARTERS - hit0) * hit1);
            gather(x, y, ways * (QUARTERS - hit0) * (QUARTERS - hit1));
        }

        private void gather(int x, int y, long ways) {
            int at = x * WIDTH + y;
            if (at >= 0 && at < then.length) {
                then[at] += ways;
            }
        }

        private boolean isOver(int x, int y) {
            return x >= line0.end || y >= line1.end;
        }

        long weigh(int ask, int a, int b) {
            long sum = 0L;
            for (int x = 0; x <= line0.end && x < WIDTH; x++) {
                for (int y = 0; y <= line1.end && y < WIDTH; y++) {
                    long ways = now[x * WIDTH + y];
                    if (ways != 0L) {
                        sum += ways * worth(ask, x, y, a, b);
                    }
                }
            }
            return sum;
        }

        private int worth(int ask, int x, int y, int a, int b) {
            switch (ask) {
                case ENDS:
                    return endOf(x, y) == a ? 1 : 0;
                case LEADS:
                    return 1 + Integer.compare(line1.leftAt(y), line0.leftAt(x)) == a ? 1 : 0;
                case STAYS:
                    return a == 0 ? line0.leftAt(x) : line1.leftAt(y);
                default:
                    return line0.outAt(x) == a && line1.outAt(y) == b ? 1 : 0;
            }
        }

        private int endOf(int x, int y) {
            if (!isOver(x, y)) {
                return 3;
            }
            if (x < line0.end) {
                return 0;
            }
            return y < line1.end ? 1 : 2;
        }

        /** Goes through told BLOWS: the first row that can't be, n if each can. */
        int walk(Sheet page, int i, int n) {
            at0 = 0;
            at1 = 0;
            walkWays = 1L;
            for (int r = 0; r < n; r++) {
                if (isOver(at0, at1)) {
                    return r;
                }
                strike(page.read(i + 2 * r) == 1, page.read(i + 2 * r + 1) == 1);
            }
            return n;
        }

        /** From 13 rows on walkWays may wrap: CHANCE, which alone asks for it, takes 12. */
        private void strike(boolean landed0, boolean landed1) {
            int x = at0;
            int y = at1;
            int hit0 = quartersOf(line0.reachesAt(x), line1.reachesAt(y));
            int hit1 = quartersOf(line1.reachesAt(y), line0.reachesAt(x));
            walkWays *= landed0 ? hit0 : QUARTERS - hit0;
            walkWays *= landed1 ? hit1 : QUARTERS - hit1;
            if (landed0) {
                at1 = line1.behindBlow(y, line0.weightAt(x));
            }
            if (landed1) {
                at0 = line0.behindBlow(x, line1.weightAt(y));
            }
        }

        int outcome() {
            return 10 * line0.outAt(at0) + line1.outAt(at1);
        }
    }
}
