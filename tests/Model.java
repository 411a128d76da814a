import java.math.BigInteger;
import java.util.ArrayList;
import java.util.Arrays;
import java.util.HashMap;
import java.util.List;
import java.util.Map;
import java.util.regex.Matcher;
import java.util.regex.Pattern;

/**
 * The document once more, written another way than the class: real rows and the machine's own faults,
 * TEXTS by a pattern, fights by rows of hits of each boy and whole numbers without a bound.
 */
final class Model {
    static final long LOST = Long.MIN_VALUE;
    private static final Pattern TEXT = Pattern.compile("d(;[btu][0-3][1-3]){1,4}(:[btu][0-3][1-3]){1,4}");

    private final Object[] sheets = new Object[4];
    private final List<List<int[]>> boys = new ArrayList<>(List.of(List.of(), List.of()));
    private final int[] orders = new int[2];
    private final Map<String, Map<List<Integer>, BigInteger>> fights = new HashMap<>();
    private int trace;
    private int fault;

    /** What a call would answer ahead of its end. */
    private static final class Stop extends RuntimeException {
        private static final long serialVersionUID = 1L;
        final int answer;

        Stop(int answer) {
            super(null, null, false, false);
            this.answer = answer;
        }
    }

    private static void need(boolean is, int otherwise) {
        if (!is) {
            throw new Stop(otherwise);
        }
    }

    private static void within(int number, int least, int most, int otherwise) {
        need(number >= least && number <= most, otherwise);
    }

    // ---- calls, by name

    long call(String name, int... a) {
        boolean namesFaults = List.of("dorms", "blows", "chance", "sheet", "put", "cell", "copy", "as").contains(name);
        boolean ofLong = List.of("odds", "ahead", "mean", "seen", "without", "chance", "split", "cell").contains(name);
        int found = 0;
        long answer;
        try {
            answer = answer(name, a);
        } catch (Stop s) {
            answer = ofLong ? LOST : s.answer;
        } catch (NullPointerException e) {
            found = 1;
            answer = ofLong ? LOST : -11;
        } catch (ClassCastException | ArrayStoreException e) {
            found = 2;
            answer = ofLong ? LOST : -12;
        } catch (IndexOutOfBoundsException e) {
            found = 3;
            answer = ofLong ? LOST : -13;
        } catch (NegativeArraySizeException e) {
            found = 4;
            answer = ofLong ? LOST : -14;
        }
        if (namesFaults) {
            fault = found;
        }
        return answer;
    }

    private long answer(String name, int[] a) {
        switch (name) {
            case "dorms": return dorms(a[0], a[1], a[2], a[3]);
            case "ofBoy": return ofBoy(a[0], a[1], a[2]);
            case "order": return order(a[0], a[1]);
            case "stands": return stands(a[0], a[1]);
            case "lands": return lands(a[0], a[1], a[2]);
            case "odds": return odds(a[0], a[1], a[2]);
            case "ahead": return ahead(a[0], a[1], a[2]);
            case "mean": return mean(a[0], a[1], a[2]);
            case "seen": return seen(a[0], a[1], a[2], a[3]);
            case "best": return best(a[0], a[1]);
            case "safe": return safe(a[0], a[1]);
            case "likely": return likely(a[0], a[1], a[2], a[3]);
            case "without": return without(a[0], a[1], a[2], a[3]);
            case "blows": return blows(a[0], a[1], a[2], a[3]);
            case "chance": return chance(a[0], a[1], a[2], a[3], a[4]);
            case "split": return split(a[0], a[1], a[2], a[3]);
            case "send": return send(a[0], a[1]);
            case "sheet": return sheet(a[0], a[1], a[2]);
            case "lose": return lose(a[0]);
            case "put": return put(a[0], a[1], a[2]);
            case "cell": return cell(a[0], a[1], a[2]);
            case "copy": return copy(a[0], a[1], a[2], a[3], a[4]);
            case "tell": return tell(a[0], a[1]);
            case "name": return name(a[0], a[1]);
            case "as": return as(a[0], a[1], a[2]);
            case "trace": return trace;
            case "fault": return fault;
            default: return many(a[0]);
        }
    }

    // ---- rows of the machine

    private static int[] taken(Object row, int lane, int i, int n) {
        byte[] bytes = null;
        short[] shorts = null;
        int[] ints = null;
        if (lane == 0) {
            bytes = (byte[]) row;
        } else if (lane == 1) {
            shorts = (short[]) row;
        } else {
            ints = (int[]) row;
        }
        int length = lane == 0 ? bytes.length : lane == 1 ? shorts.length : ints.length;
        int[] cells = new int[n < 0 ? n : Math.min(n, 100)];
        java.util.Objects.checkFromIndexSize(i, n, length);
        for (int c = 0; c < n; c++) {
            cells[c] = lane == 0 ? bytes[i + c] : lane == 1 ? shorts[i + c] : ints[i + c];
        }
        return cells;
    }

    private int sheet(int k, int lane, int n) {
        within(k, 0, 3, -1);
        within(lane, 0, 2, -2);
        need(n <= 60, -2);
        sheets[k] = lane == 0 ? new byte[n] : lane == 1 ? new short[n] : new int[n];
        return 1;
    }

    private int lose(int k) {
        within(k, 0, 3, -1);
        int had = sheets[k] == null ? 0 : 1;
        sheets[k] = null;
        return had;
    }

    private int put(int k, int i, int v) {
        within(k, 0, 3, -1);
        if (sheets[k] instanceof byte[] bytes) {
            bytes[i] = (byte) v;
        } else if (sheets[k] instanceof short[] shorts) {
            shorts[i] = (short) v;
        } else {
            ((int[]) sheets[k])[i] = v;
        }
        return 1;
    }

    private long cell(int k, int i, int lane) {
        within(k, 0, 3, -1);
        within(lane, 0, 2, -2);
        return lane == 0 ? ((byte[]) sheets[k])[i] : lane == 1 ? ((short[]) sheets[k])[i] : ((int[]) sheets[k])[i];
    }

    private int copy(int k, int i, int other, int j, int n) {
        within(k, 0, 3, -1);
        within(other, 0, 3, -1);
        System.arraycopy(sheets[k], i, sheets[other], j, n);
        return n;
    }

    // ---- dormitories

    private int dorms(int sheet, int lane, int i, int n) {
        within(sheet, 0, 3, -1);
        within(lane, 0, 2, -2);
        StringBuilder text = new StringBuilder();
        for (int code : taken(sheets[sheet], lane, i, n)) {
            text.append(code >= 0 && code < 256 ? (char) code : '?');
        }
        if (!TEXT.matcher(text).matches()) {
            return -100 - firstFault(text.toString());
        }
        boys.set(0, new ArrayList<>());
        boys.set(1, new ArrayList<>());
        for (int at = 1; at < text.length(); at += 4) {
            int[] boy = {"btu".indexOf(text.charAt(at + 1)), text.charAt(at + 2) - '0', text.charAt(at + 3) - '0'};
            boys.get(text.charAt(at) == ';' ? 0 : 1).add(boy);
        }
        orders[0] = 0;
        orders[1] = 0;
        fights.clear();
        return boys.get(0).size() + boys.get(1).size();
    }

    private static int firstFault(String text) {
        for (int length = 1; length <= text.length(); length++) {
            Matcher m = TEXT.matcher(text.substring(0, length));
            if (!m.matches() && !m.hitEnd()) {
                return length - 1;
            }
        }
        return text.length();
    }

    private int[] boy(int side, int k) {
        within(side, 0, 1, -1);
        within(k, 0, boys.get(side).size() - 1, -1);
        return boys.get(side).get(k);
    }

    private static int reaches(int[] boy) {
        return boy[0] == 0 ? boy[1] : boy[0] == 1 ? boy[1] + 1 : 2 * (boy[1] + 1);
    }

    private static int weight(int[] boy) {
        return boy[0] == 2 ? 2 : 1;
    }

    private static int quarters(int[] boy, int[] other) {
        int q = 2 + reaches(boy) - reaches(other);
        return q < 1 ? 1 : q > 3 ? 3 : q;
    }

    private int ofBoy(int side, int k, int what) {
        int[] boy = boy(side, k);
        within(what, 0, 4, -2);
        return new int[] {boy[0], boy[1], boy[2], reaches(boy), weight(boy)}[what];
    }

    private static List<List<Integer>> rows(List<Integer> of) {
        if (of.isEmpty()) {
            return List.of(List.of());
        }
        List<List<Integer>> all = new ArrayList<>();
        for (Integer first : of) {
            List<Integer> others = new ArrayList<>(of);
            others.remove(first);
            for (List<Integer> rest : rows(others)) {
                List<Integer> row = new ArrayList<>(List.of(first));
                row.addAll(rest);
                all.add(row);
            }
        }
        return all;
    }

    private List<List<Integer>> rows(int side) {
        List<Integer> all = new ArrayList<>();
        for (int k = 0; k < boys.get(side).size(); k++) {
            all.add(k);
        }
        return rows(all);
    }

    private List<Integer> row(int side) {
        return rows(side).get(orders[side]);
    }

    private void told() {
        need(!boys.get(0).isEmpty(), -3);
    }

    private int order(int side, int v) {
        within(side, 0, 1, -1);
        told();
        within(v, 0, rows(side).size() - 1, -2);
        int was = orders[side];
        orders[side] = v;
        return was;
    }

    private int stands(int side, int place) {
        within(side, 0, 1, -1);
        within(place, 0, boys.get(side).size() - 1, -1);
        return row(side).get(place);
    }

    private int lands(int side, int k, int other) {
        return quarters(boy(side, k), boy(1 - side, other));
    }

    private int many(int what) {
        within(what, 0, 3, -2);
        return what < 2 ? boys.get(what).size() : orders[what - 2];
    }

    // ---- fights: a state is a row of the hits of each boy, 4 of SIDE 0, 4 of SIDE 1

    private int front(int side, List<Integer> row, List<Integer> hits) {
        for (int k : row) {
            if (hits.get(4 * side + k) < boys.get(side).get(k)[2]) {
                return k;
            }
        }
        return -1;
    }

    private List<Integer> struck(List<Integer> hits, int a, int b, boolean hit0, boolean hit1) {
        List<Integer> next = new ArrayList<>(hits);
        if (hit0) {
            next.set(4 + b, Math.min(3, next.get(4 + b) + weight(boys.get(0).get(a))));
        }
        if (hit1) {
            next.set(a, Math.min(3, next.get(a) + weight(boys.get(1).get(b))));
        }
        return next;
    }

    private static List<Integer> fresh() {
        return Arrays.asList(0, 0, 0, 0, 0, 0, 0, 0);
    }

    private Map<List<Integer>, BigInteger> fight(List<Integer> row0, List<Integer> row1, int n) {
        String key = row0 + " " + row1 + " " + n;
        Map<List<Integer>, BigInteger> known = fights.get(key);
        if (known != null) {
            return known;
        }
        Map<List<Integer>, BigInteger> then = new HashMap<>();
        if (n == 0) {
            then.put(fresh(), BigInteger.ONE);
        } else {
            fight(row0, row1, n - 1).forEach((hits, ways) -> {
                int a = front(0, row0, hits);
                int b = front(1, row1, hits);
                for (int blow = 0; blow < 4; blow++) {
                    if (a < 0 || b < 0) {
                        then.merge(hits, ways.multiply(BigInteger.valueOf(4)), BigInteger::add);
                        continue;
                    }
                    int p = quarters(boys.get(0).get(a), boys.get(1).get(b));
                    int q = quarters(boys.get(1).get(b), boys.get(0).get(a));
                    int share = ((blow & 1) != 0 ? p : 4 - p) * ((blow & 2) != 0 ? q : 4 - q);
                    List<Integer> next = struck(hits, a, b, (blow & 1) != 0, (blow & 2) != 0);
                    then.merge(next, ways.multiply(BigInteger.valueOf(share)), BigInteger::add);
                }
            });
        }
        fights.put(key, then);
        return then;
    }

    private int left(int side, List<Integer> row, List<Integer> hits) {
        int left = 0;
        for (int k : row) {
            left += hits.get(4 * side + k) < boys.get(side).get(k)[2] ? 1 : 0;
        }
        return left;
    }

    /** What is summed over the ends of a fight, by how many of both SIDES are left. */
    private interface Worth {
        int of(int left0, int left1);
    }

    private BigInteger sum(List<Integer> row0, List<Integer> row1, int n, Worth worth) {
        BigInteger sum = BigInteger.ZERO;
        for (Map.Entry<List<Integer>, BigInteger> e : fight(row0, row1, n).entrySet()) {
            int value = worth.of(left(0, row0, e.getKey()), left(1, row1, e.getKey()));
            sum = sum.add(e.getValue().multiply(BigInteger.valueOf(value)));
        }
        return sum;
    }

    private static long share(BigInteger upper, int n, int which) {
        BigInteger lower = BigInteger.valueOf(16).pow(n);
        BigInteger common = upper.gcd(lower);
        return (which == 0 ? upper : lower).divide(common).longValueExact();
    }

    private static Worth won(int side) {
        return (l, r) -> (side == 0 ? l > 0 && r == 0 : r > 0 && l == 0) ? 1 : 0;
    }

    private long odds(int n, int what, int which) {
        within(n, 0, 12, -2);
        within(what, 0, 3, -2);
        within(which, 0, 1, -2);
        told();
        Worth worth = what < 2 ? won(what) : what == 2 ? (l, r) -> l + r == 0 ? 1 : 0 : (l, r) -> l > 0 && r > 0 ? 1 : 0;
        return share(sum(row(0), row(1), n, worth), n, which);
    }

    private long ahead(int n, int what, int which) {
        within(n, 0, 12, -2);
        within(what, 0, 2, -2);
        within(which, 0, 1, -2);
        told();
        Worth worth = (l, r) -> (what == 0 ? l > r : what == 1 ? l == r : l < r) ? 1 : 0;
        return share(sum(row(0), row(1), n, worth), n, which);
    }

    private long mean(int side, int n, int which) {
        within(side, 0, 1, -1);
        within(n, 0, 12, -2);
        within(which, 0, 1, -2);
        told();
        return share(sum(row(0), row(1), n, (l, r) -> side == 0 ? l : r), n, which);
    }

    private Worth outs(int a, int b) {
        int of0 = boys.get(0).size();
        int of1 = boys.get(1).size();
        return (l, r) -> of0 - l == a && of1 - r == b ? 1 : 0;
    }

    private long seen(int n, int a, int b, int which) {
        within(n, 0, 12, -2);
        within(a, 0, 4, -2);
        within(b, 0, 4, -2);
        within(which, 0, 1, -2);
        told();
        return share(sum(row(0), row(1), n, outs(a, b)), n, which);
    }

    // ---- orders

    private BigInteger sumOf(int side, List<Integer> mine, List<Integer> theirs, int n, Worth worth) {
        return side == 0 ? sum(mine, theirs, n, worth) : sum(theirs, mine, n, worth);
    }

    private int most(List<BigInteger> values) {
        int found = 0;
        for (int v = 1; v < values.size(); v++) {
            if (values.get(v).compareTo(values.get(found)) > 0) {
                found = v;
            }
        }
        return found;
    }

    private int best(int side, int n) {
        within(side, 0, 1, -1);
        within(n, 0, 12, -2);
        told();
        List<BigInteger> values = new ArrayList<>();
        for (List<Integer> mine : rows(side)) {
            values.add(sumOf(side, mine, row(1 - side), n, won(side)));
        }
        return most(values);
    }

    private int safe(int side, int n) {
        within(side, 0, 1, -1);
        within(n, 0, 12, -2);
        told();
        List<BigInteger> values = new ArrayList<>();
        for (List<Integer> mine : rows(side)) {
            BigInteger least = null;
            for (List<Integer> theirs : rows(1 - side)) {
                BigInteger value = sumOf(side, mine, theirs, n, won(side));
                least = least == null ? value : least.min(value);
            }
            values.add(least);
        }
        return most(values);
    }

    private int likely(int side, int n, int a, int b) {
        within(side, 0, 1, -1);
        within(n, 0, 12, -2);
        within(a, 0, 4, -2);
        within(b, 0, 4, -2);
        told();
        List<BigInteger> values = new ArrayList<>();
        for (List<Integer> mine : rows(side)) {
            values.add(sumOf(side, mine, row(1 - side), n, outs(a, b)));
        }
        return most(values);
    }

    private long without(int side, int k, int n, int which) {
        boy(side, k);
        within(n, 0, 12, -2);
        within(which, 0, 1, -2);
        need(boys.get(side).size() > 1, -3);
        List<Integer> others = new ArrayList<>(row(side));
        others.remove((Integer) k);
        return share(sumOf(side, others, row(1 - side), n, won(side)), n, which);
    }

    // ---- blows, ways round

    private int[] blowCells(int sheet, int lane, int i, int n) {
        int[] cells = taken(sheets[sheet], lane, i, 2 * n);
        for (int c : cells) {
            within(c, 0, 1, -2);
        }
        return cells;
    }

    private int blows(int sheet, int lane, int i, int n) {
        within(sheet, 0, 3, -1);
        within(lane, 0, 2, -2);
        within(n, 0, 30, -2);
        told();
        int[] cells = blowCells(sheet, lane, i, n);
        List<Integer> hits = fresh();
        for (int r = 0; r < n; r++) {
            int a = front(0, row(0), hits);
            int b = front(1, row(1), hits);
            if (a < 0 || b < 0) {
                return -100 - r;
            }
            hits = struck(hits, a, b, cells[2 * r] == 1, cells[2 * r + 1] == 1);
        }
        int out0 = boys.get(0).size() - left(0, row(0), hits);
        return 10 * out0 + boys.get(1).size() - left(1, row(1), hits);
    }

    private long chance(int sheet, int lane, int i, int n, int which) {
        within(sheet, 0, 3, -1);
        within(lane, 0, 2, -2);
        within(n, 0, 12, -2);
        within(which, 0, 1, -2);
        told();
        int[] cells = blowCells(sheet, lane, i, n);
        List<Integer> hits = fresh();
        BigInteger upper = BigInteger.ONE;
        for (int r = 0; r < n; r++) {
            int a = front(0, row(0), hits);
            int b = front(1, row(1), hits);
            if (a < 0 || b < 0) {
                return which == 0 ? 0 : 1;
            }
            int p = quarters(boys.get(0).get(a), boys.get(1).get(b));
            int q = quarters(boys.get(1).get(b), boys.get(0).get(a));
            int ways = (cells[2 * r] == 1 ? p : 4 - p) * (cells[2 * r + 1] == 1 ? q : 4 - q);
            upper = upper.multiply(BigInteger.valueOf(ways));
            hits = struck(hits, a, b, cells[2 * r] == 1, cells[2 * r + 1] == 1);
        }
        return share(upper, n, which);
    }

    private List<Integer> those(int side, int set, boolean inSet) {
        List<Integer> some = new ArrayList<>(row(side));
        some.removeIf(k -> ((set >> k) & 1) == (inSet ? 0 : 1));
        return some;
    }

    private BigInteger way(int n, int set, int other, boolean inSet) {
        List<Integer> ours = those(0, set, inSet);
        List<Integer> theirs = those(1, other, inSet);
        return theirs.isEmpty() ? BigInteger.valueOf(16).pow(n) : sum(ours, theirs, n, won(0));
    }

    private BigInteger bothWays(int n, int set, int other) {
        return way(n, set, other, true).multiply(way(n, set, other, false));
    }

    private long split(int n, int set, int other, int which) {
        within(n, 0, 6, -2);
        told();
        within(set, 0, (1 << boys.get(0).size()) - 1, -2);
        within(other, 0, (1 << boys.get(1).size()) - 1, -2);
        within(which, 0, 1, -2);
        return share(bothWays(n, set, other), 2 * n, which);
    }

    private int send(int n, int other) {
        within(n, 0, 6, -2);
        told();
        within(other, 0, (1 << boys.get(1).size()) - 1, -2);
        List<BigInteger> values = new ArrayList<>();
        for (int set = 0; set < 1 << boys.get(0).size(); set++) {
            values.add(bothWays(n, set, other));
        }
        return most(values);
    }

    // ---- kinds

    private void leave(int... numbers) {
        for (int number : numbers) {
            trace = 31 * trace + number;
        }
    }

    private int tell(int side, int k) {
        int[] boy = boy(side, k);
        if (boy[0] == 0) {
            leave(1);
            return boy[1];
        }
        if (boy[0] == 1) {
            leave(2, 1);
            return boy[1] + 100;
        }
        leave(3, 2, 1, 1);
        return boy[1] + 100 + boy[1];
    }

    private int name(int side, int k) {
        int[] boy = boy(side, k);
        leave(boy[0] == 2 ? 5 : 4);
        return boy[0] == 2 ? 80 : k;
    }

    private int as(int side, int k, int kind) {
        int[] boy = boy(side, k);
        within(kind, 0, 2, -2);
        if (boy[0] < kind) {
            throw new ClassCastException();
        }
        return 1;
    }
}
