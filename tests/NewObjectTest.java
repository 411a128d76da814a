/** Promise 1 and what each call answers as long as there are no DORMITORIES. */
public final class NewObjectTest {
    private static final long LOST = Long.MIN_VALUE;

    public static void main(String[] args) {
        Due d = new Due("new object");
        d.due("UNKNOWN", PillowRows.UNKNOWN, -1);
        d.due("OUTSIDE", PillowRows.OUTSIDE, -2);
        d.due("STATE", PillowRows.STATE, -3);
        d.due("LOST", PillowRows.LOST, LOST);
        noBoys(d, new PillowRows());
        noSheets(d, new PillowRows());
        stateIsToldInItsTurn(d, new PillowRows());
        d.end();
    }

    private static void noBoys(Due d, PillowRows x) {
        for (int what = 0; what < 4; what++) {
            d.due("many(" + what + ")", x.many(what), 0);
        }
        d.due("trace()", x.trace(), 0);
        d.due("fault()", x.fault(), 0);
        for (int side = 0; side < 2; side++) {
            d.due("ofBoy", x.ofBoy(side, 0, 0), -1);
            d.due("stands", x.stands(side, 0), -1);
            d.due("lands", x.lands(side, 0, 0), -1);
            d.due("tell", x.tell(side, 0), -1);
            d.due("name", x.name(side, 0), -1);
            d.due("as", x.as(side, 0, 0), -1);
            d.due("without", x.without(side, 0, 0, 0), LOST);
        }
        d.due("trace()", x.trace(), 0);
    }

    private static void noSheets(Due d, PillowRows x) {
        for (int k = 0; k < 4; k++) {
            d.due("lose", x.lose(k), 0);
            d.due("put", x.put(k, 0, 1), -11);
            d.due("fault", x.fault(), 1);
            d.due("cell", x.cell(k, 0, 2), LOST);
            d.due("fault", x.fault(), 1);
            d.due("dorms", x.dorms(k, 1, 0, 1), -11);
            d.due("copy", x.copy(k, 0, 0, 0, 0), -11);
        }
        d.due("lose(4)", x.lose(4), -1);
        d.due("lose(-1)", x.lose(-1), -1);
    }

    private static void stateIsToldInItsTurn(Due d, PillowRows x) {
        d.due("order side", x.order(2, 0), -1);
        d.due("order", x.order(1, 99), -3);
        d.due("odds", x.odds(0, 0, 0), LOST);
        d.due("ahead", x.ahead(0, 0, 0), LOST);
        d.due("mean", x.mean(0, 0, 0), LOST);
        d.due("seen", x.seen(0, 0, 0, 0), LOST);
        d.due("best side", x.best(-1, 13), -1);
        d.due("best n", x.best(0, 13), -2);
        d.due("best", x.best(0, 12), -3);
        d.due("safe side", x.safe(2, 13), -1);
        d.due("safe n", x.safe(1, -1), -2);
        d.due("safe", x.safe(1, 0), -3);
        d.due("likely side", x.likely(2, 13, 5, 5), -1);
        d.due("likely n", x.likely(0, 13, 0, 0), -2);
        d.due("likely a", x.likely(0, 0, 5, 0), -2);
        d.due("likely b", x.likely(0, 0, 0, -1), -2);
        d.due("likely", x.likely(0, 0, 4, 4), -3);
        d.due("split", x.split(0, 0, 0, 0), LOST);
        d.due("send n", x.send(7, 0), -2);
        d.due("send ahead of other", x.send(6, 16), -3);
        d.due("blows sheet", x.blows(4, 3, 0, 31), -1);
        d.due("blows lane", x.blows(0, 3, 0, 0), -2);
        d.due("blows n", x.blows(0, 0, 0, 31), -2);
        x.put(0, 0, 0);
        d.due("fault of put", x.fault(), 1);
        d.due("blows ahead of NULL", x.blows(0, 0, 0, 1), -3);
        d.due("fault of a refusal", x.fault(), 0);
        x.put(0, 0, 0);
        d.due("chance ahead of NULL", x.chance(0, 0, 0, 1, 0), LOST);
        d.due("fault of a refusal", x.fault(), 0);
    }
}
