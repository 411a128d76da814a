import java.lang.reflect.InvocationTargetException;
import java.lang.reflect.Method;
import java.util.ArrayList;
import java.util.List;
import java.util.Map;

/** Long runs of calls, drawn by a fixed rule, each answered by the class and by the Model. */
public final class FuzzTest {
    private static final int RUNS = 120;
    private static final int CALLS = 512;
    private static final int[] ODD = {Integer.MIN_VALUE, Integer.MAX_VALUE, -1, 2, 3, 4, 5, 7, 13, 16, 31, 61, 100, -100};

    /** Up to where each number of a call is mostly drawn: mostly, but not always, one that can be. */
    private static final Map<String, int[]> MOSTLY = Map.ofEntries(Map.entry("dorms", new int[] {3, 2, 4, 33}),
        Map.entry("ofBoy", new int[] {1, 3, 5}), Map.entry("order", new int[] {1, 23}),
        Map.entry("stands", new int[] {1, 4}), Map.entry("lands", new int[] {1, 3, 3}),
        Map.entry("odds", new int[] {12, 3, 1}), Map.entry("ahead", new int[] {12, 2, 1}),
        Map.entry("mean", new int[] {1, 12, 1}), Map.entry("seen", new int[] {12, 4, 4, 1}),
        Map.entry("best", new int[] {1, 12}), Map.entry("safe", new int[] {1, 12}),
        Map.entry("likely", new int[] {1, 12, 4, 4}), Map.entry("without", new int[] {1, 3, 12, 1}),
        Map.entry("blows", new int[] {3, 2, 9, 9}), Map.entry("chance", new int[] {3, 2, 9, 9, 1}),
        Map.entry("split", new int[] {6, 15, 15, 1}), Map.entry("send", new int[] {6, 15}),
        Map.entry("sheet", new int[] {3, 2, 60}), Map.entry("lose", new int[] {3}),
        Map.entry("put", new int[] {3, 60, 70000}), Map.entry("cell", new int[] {3, 40, 2}),
        Map.entry("copy", new int[] {3, 9, 3, 9, 20}), Map.entry("tell", new int[] {1, 3}),
        Map.entry("name", new int[] {1, 3}), Map.entry("as", new int[] {1, 3, 3}),
        Map.entry("trace", new int[0]), Map.entry("fault", new int[0]), Map.entry("many", new int[] {4}));

    private final Due d = new Due("fuzz");
    private final List<Method> methods = new ArrayList<>();
    private long drawn = 88172645463325252L;
    private PillowRows x;
    private Model model;
    private int calls;

    public static void main(String[] args) throws ReflectiveOperationException {
        new FuzzTest().run();
    }

    private void run() throws ReflectiveOperationException {
        for (Method m : PillowRows.class.getDeclaredMethods()) {
            if (java.lang.reflect.Modifier.isPublic(m.getModifiers())) {
                methods.add(m);
            }
        }
        methods.sort((a, b) -> a.getName().compareTo(b.getName()));
        for (int run = 0; run < RUNS; run++) {
            x = new PillowRows();
            model = new Model();
            calls = 0;
            int settleBefore = draw(3) == 0 ? 100 : 0;
            while (calls < CALLS) {
                if (calls > settleBefore && draw(60) == 0 || calls == settleBefore) {
                    writeText(run);
                } else if (draw(40) == 0) {
                    writeBlows();
                } else {
                    anyCall();
                }
            }
        }
        d.end();
    }

    private int draw(int below) {
        drawn ^= drawn << 13;
        drawn ^= drawn >>> 7;
        drawn ^= drawn << 17;
        return (int) Math.floorMod(drawn, (long) below);
    }

    private void ask(Method m, int... a) throws ReflectiveOperationException {
        calls++;
        StringBuilder told = new StringBuilder(m.getName()).append('(');
        Object[] given = new Object[a.length];
        for (int k = 0; k < a.length; k++) {
            given[k] = a[k];
            told.append(k == 0 ? "" : ", ").append(a[k]);
        }
        long want = model.call(m.getName(), a);
        try {
            d.due(told.append(")").toString(), ((Number) m.invoke(x, given)).longValue(), want);
        } catch (InvocationTargetException e) {
            d.due(told + ") threw " + e.getCause(), 1, 0);
        }
    }

    private void ask(String name, int... a) throws ReflectiveOperationException {
        for (Method m : methods) {
            if (m.getName().equals(name)) {
                ask(m, a);
            }
        }
    }

    private void anyCall() throws ReflectiveOperationException {
        Method m = methods.get(draw(methods.size()));
        int[] most = MOSTLY.get(m.getName());
        int[] a = new int[m.getParameterCount()];
        for (int k = 0; k < a.length; k++) {
            a[k] = draw(most[k] + 1);
        }
        if (a.length > 0 && draw(5) == 0) {
            a[draw(a.length)] = ODD[draw(ODD.length)];
        }
        if (m.getName().equals("lose") && draw(4) != 0) {
            return;
        }
        ask(m, a);
        if (draw(3) == 0) {
            ask("fault");
        }
    }

    private void writeText(int run) throws ReflectiveOperationException {
        StringBuilder text = new StringBuilder("d");
        int most = run % 10 == 0 ? 4 : 3;
        for (int side = 0; side < 2; side++) {
            for (int k = 1 + draw(most); k > 0; k--) {
                text.append(side == 0 ? ';' : ':').append("btu".charAt(draw(3))).append(draw(4)).append(1 + draw(3));
            }
        }
        if (draw(3) == 0) {
            spoil(text);
        }
        int lane = draw(3);
        int from = draw(4);
        int sheet = draw(3);
        ask("sheet", sheet, lane, Math.min(60, from + text.length() + draw(2)));
        for (int k = 0; k < text.length() && from + k < 60; k++) {
            ask("put", sheet, from + k, text.charAt(k) + (lane == 0 ? 256 * draw(2) : 0));
        }
        ask("dorms", sheet, lane, from, text.length());
        ask("order", 0, draw(6));
        ask("order", 1, draw(6));
    }

    private void spoil(StringBuilder text) {
        String codes = "d;:btu01234x";
        switch (draw(3)) {
            case 0:
                text.setLength(draw(text.length()));
                break;
            case 1:
                text.setCharAt(draw(text.length()), codes.charAt(draw(codes.length())));
                break;
            default:
                text.append(codes.charAt(draw(codes.length())));
                break;
        }
    }

    private void writeBlows() throws ReflectiveOperationException {
        int n = draw(61);
        ask("sheet", 3, 2, n);
        for (int k = 0; k < Math.min(n, 30); k++) {
            if (draw(2) == 0) {
                ask("put", 3, k, draw(30) == 0 ? 2 : 1);
            }
        }
        for (int rows = 0; rows < 6; rows++) {
            ask("blows", 3, 2, rows % 3, 2 * rows);
            ask("chance", 3, 2, rows % 3, 2 * rows, rows % 2);
            ask("fault");
        }
    }
}
