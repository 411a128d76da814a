/** Calls that are told as a line: a name and its numbers; min and max are the least and the greatest int. */
final class Ask {
    private Ask() {
    }

    static long of(PillowRows x, String line) {
        String[] parts = line.split(" ");
        int[] a = new int[parts.length - 1];
        for (int k = 0; k < a.length; k++) {
            a[k] = number(parts[k + 1]);
        }
        return of(x, parts[0], a);
    }

    private static int number(String told) {
        switch (told) {
            case "min": return Integer.MIN_VALUE;
            case "max": return Integer.MAX_VALUE;
            default: return Integer.parseInt(told);
        }
    }

    private static long of(PillowRows x, String name, int[] a) {
        switch (name) {
            case "dorms": return x.dorms(a[0], a[1], a[2], a[3]);
            case "ofBoy": return x.ofBoy(a[0], a[1], a[2]);
            case "order": return x.order(a[0], a[1]);
            case "stands": return x.stands(a[0], a[1]);
            case "lands": return x.lands(a[0], a[1], a[2]);
            case "odds": return x.odds(a[0], a[1], a[2]);
            case "ahead": return x.ahead(a[0], a[1], a[2]);
            case "mean": return x.mean(a[0], a[1], a[2]);
            case "seen": return x.seen(a[0], a[1], a[2], a[3]);
            case "best": return x.best(a[0], a[1]);
            case "safe": return x.safe(a[0], a[1]);
            case "likely": return x.likely(a[0], a[1], a[2], a[3]);
            case "without": return x.without(a[0], a[1], a[2], a[3]);
            case "blows": return x.blows(a[0], a[1], a[2], a[3]);
            case "chance": return x.chance(a[0], a[1], a[2], a[3], a[4]);
            case "split": return x.split(a[0], a[1], a[2], a[3]);
            case "send": return x.send(a[0], a[1]);
            case "sheet": return x.sheet(a[0], a[1], a[2]);
            case "lose": return x.lose(a[0]);
            case "put": return x.put(a[0], a[1], a[2]);
            case "cell": return x.cell(a[0], a[1], a[2]);
            case "copy": return x.copy(a[0], a[1], a[2], a[3], a[4]);
            case "tell": return x.tell(a[0], a[1]);
            case "name": return x.name(a[0], a[1]);
            case "as": return x.as(a[0], a[1], a[2]);
            case "trace": return x.trace();
            case "fault": return x.fault();
            case "many": return x.many(a[0]);
            default: throw new IllegalArgumentException("no call " + name);
        }
    }
}
