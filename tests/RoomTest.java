import java.lang.management.ManagementFactory;

/** All calls of a run live in one room: what an object and its dearest calls make stays small. */
public final class RoomTest {
    private static final String TEXT = "d;u33;b23;t13;b03:b33:u03:t23:b13";
    private static final int CALLS = 400;

    public static void main(String[] args) {
        Due d = new Due("room");
        int[] once = new int[] {warm()};
        PillowRows x = Due.of(TEXT);
        Due.writeBlows(x, 1, "00".repeat(12));
        long before = made();
        for (int k = 0; k < CALLS; k++) {
            once[0] += work(x, k % 8);
        }
        long byWork = made() - before;
        d.holds("calls that make nothing made " + byWork + " bytes", byWork < 4096);
        x = Due.of(TEXT);
        before = made();
        for (int k = 0; k < CALLS; k++) {
            once[0] += x.dorms(0, 0, 0, TEXT.length());
        }
        long byTexts = made() - before;
        d.holds("texts made " + byTexts + " bytes", byTexts < CALLS * 8 * 40L);
        before = made();
        PillowRows[] many = new PillowRows[1000];
        for (int k = 0; k < many.length; k++) {
            many[k] = new PillowRows();
        }
        long byObjects = made() - before;
        d.holds("an object takes " + byObjects / 1000 + " bytes", byObjects < 1000 * 8000L);
        d.holds("work was done", once[0] != 0 && many[999] != null);
        d.end();
    }

    /** The first calls load classes, which is not what is counted here. */
    private static int warm() {
        PillowRows x = Due.of(TEXT);
        Due.writeBlows(x, 1, "00".repeat(12));
        int sum = 0;
        for (int k = 0; k < 8; k++) {
            sum += work(x, k);
        }
        made();
        return sum;
    }

    private static int work(PillowRows x, int k) {
        switch (k) {
            case 0:
                return x.safe(0, 12);
            case 1:
                return x.best(1, 12);
            case 2:
                return x.send(6, 5);
            case 3:
                return (int) x.odds(12, 3, 0);
            case 4:
                return x.blows(1, 2, 0, 12);
            case 5:
                return x.sheet(2, 2, 60);
            case 6:
                return x.tell(0, 0) + x.name(0, 0) + x.as(0, 0, 2);
            default:
                return x.copy(1, 0, 1, 1, 20) + x.likely(0, 6, 2, 2);
        }
    }

    private static long made() {
        com.sun.management.ThreadMXBean threads = (com.sun.management.ThreadMXBean) ManagementFactory.getThreadMXBean();
        return threads.getThreadAllocatedBytes(Thread.currentThread().getId());
    }
}
