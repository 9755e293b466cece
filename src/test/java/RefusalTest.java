/** Each refused call and each FAULT, in several states: what it answers, and that all else is as it was. */
public final class RefusalTest {
    private static final Check check = new Check();
    private static final long LOST = BlankPardons.LOST;
    private static final int STAYS = -1;
    private static final int NOTHING = 0, SMALL = 1, FULL = 2;

    private interface Call {
        long on(BlankPardons x);
    }

    public static void main(String[] args) {
        check.sentence("They change nothing (but fault(), of a call that names FAULTS).");
        kingdomCalls();
        yearCalls();
        hopeCalls();
        readingCalls();
        sheetCalls();
        partCalls();
        withoutKingdom();
        full();
        check.sentence("it answers -10 less it (LOST, where a long is answered, as for refusals) and changes nothing");
        faults();
        texts();
        check.sentence("Nothing is promised beyond the answers and state changes described above");
        questions();
        check.finish();
    }

    private static BlankPardons made(int state) {
        BlankPardons x = new BlankPardons();
        if (state == NOTHING) {
            x.put(0, 0, 0);
            return x;
        }
        String text = state == SMALL ? "p/425/133;s1;m0" : "p/425/133/999/900/111;s3;m3;h3;s3";
        Check.write(x, 0, 0, text);
        x.kingdom(0, 0, 0, text.length());
        x.sheet(0, 0, state == SMALL ? 3 : 60);
        x.put(0, 0, 1);
        Check.row(x, 1, 1, 300, -7, 1);
        x.sheet(2, 2, 0);
        x.alter(0, 0, 5);
        x.grant(0, 2);
        for (int k = 0; k < (state == SMALL ? 2 : 8); k++) {
            x.reading(k % 2, k % 2, k < 5);
        }
        x.tell(1);
        x.as(0, 2);
        return x;
    }

    /** DEEDS, SUBJECTS, SHEETS, TRACE, how many, and the READINGS one by one, from the last back; not fault(). */
    private static String seen(BlankPardons x) {
        StringBuilder all = new StringBuilder();
        all.append(x.trace());
        for (int what = 0; what < 4; what++) {
            all.append(' ').append(x.many(what));
        }
        for (int k = 0; k < 15; k++) {
            all.append(' ').append(x.ofDeed(k / 3, k % 3)).append(' ').append(x.ofSubject(k / 3, k % 3));
        }
        for (int k = 0; k < 4; k++) {
            cells(x, k, all);
        }
        for (int left = x.many(3); left >= 0; left--) {
            for (int k = 0; k < 5; k++) {
                all.append(' ').append(x.risks(k)).append(' ').append(x.kinds(k));
            }
            x.back(1);
        }
        return all.toString();
    }

    private static void cells(BlankPardons x, int k, StringBuilder all) {
        for (int lane = 0; lane < 3; lane++) {
            boolean more = true;
            for (int i = 0; i <= 60 && more; i++) {
                long cell = x.cell(k, i, lane);
                more = cell != LOST;
                all.append(' ').append(cell);
            }
            all.append(" fault ").append(x.fault());
        }
    }

    private static void refused(int state, String name, Call call, long want, int fault) {
        String where = name + " in state " + state;
        BlankPardons twin = made(state);
        BlankPardons x = made(state);
        check.due(where, call.on(x), want);
        check.due(where + ", then fault()", x.fault(), fault == STAYS ? twin.fault() : fault);
        check.holds(where + " changes nothing", seen(x).equals(seen(twin)));
    }

    private static void everywhere(String name, Call call, long want, int fault) {
        for (int state = NOTHING; state <= FULL; state++) {
            refused(state, name, call, want, fault);
        }
    }

    private static void inKingdoms(String name, Call call, long want, int fault) {
        refused(SMALL, name, call, want, fault);
        refused(FULL, name, call, want, fault);
    }

    private static void kingdomCalls() {
        for (int bad : Check.beyond(0, 3)) {
            everywhere("kingdom, sheet", x -> x.kingdom(bad, 0, 0, 0), -1, 0);
            everywhere("ofSubject, a", x -> x.ofSubject(bad, 1), -1, STAYS);
            everywhere("fear, a", x -> x.fear(bad, 0), -1, STAYS);
            everywhere("grant, a", x -> x.grant(bad, 1), -1, STAYS);
            inKingdoms("grant, v", x -> x.grant(1, bad), -2, STAYS);
        }
        for (int bad : Check.beyond(0, 4)) {
            everywhere("ofDeed, d", x -> x.ofDeed(bad, 1), -1, STAYS);
            everywhere("fear, d", x -> x.fear(0, bad), -1, STAYS);
            everywhere("alter, d", x -> x.alter(bad, 1, 1), -1, STAYS);
        }
        for (int bad : Check.beyond(0, 2)) {
            everywhere("kingdom, lane", x -> x.kingdom(0, bad, 0, 0), -2, 0);
            inKingdoms("ofDeed, what", x -> x.ofDeed(1, bad), -2, STAYS);
            inKingdoms("ofSubject, what", x -> x.ofSubject(1, bad), -2, STAYS);
            inKingdoms("alter, what", x -> x.alter(1, bad, 1), -2, STAYS);
        }
        for (int bad : Check.beyond(0, 9)) {
            inKingdoms("alter, v", x -> x.alter(1, 0, bad), -2, STAYS);
        }
    }

    private static void yearCalls() {
        for (int bad : Check.beyond(0, 3)) {
            everywhere("year, sheet", x -> x.year(bad, 0, 0, 1, 0), -1, 0);
        }
        for (int bad : Check.beyond(0, 2)) {
            everywhere("year, lane", x -> x.year(0, bad, 0, 1, 0), -2, 0);
        }
        for (int bad : Check.beyond(0, 20)) {
            everywhere("year, n", x -> x.year(0, 0, 0, bad, 0), -2, 0);
        }
        for (int bad : Check.beyond(0, 13)) {
            everywhere("year, what", x -> x.year(0, 0, 0, 1, bad), -2, 0);
        }
        for (int bad = 3; bad < 10; bad++) {
            int what = bad;
            everywhere("year, what", x -> x.year(0, 0, 0, 1, what), -2, 0);
        }
        inKingdoms("year, a cell", x -> x.year(1, 1, 0, 1, 0), -1, 0);
    }

    private static void hopeCalls() {
        for (int bad : Check.beyond(0, 3)) {
            everywhere("hope, a", x -> x.hope(bad, 1, 1, 0), LOST, STAYS);
            everywhere("hope, papers", x -> x.hope(0, 1, bad, 0), LOST, STAYS);
            everywhere("uses, a", x -> x.uses(bad, 1, 1), -1, STAYS);
        }
        for (int bad : Check.beyond(0, 8)) {
            everywhere("hope, n", x -> x.hope(0, bad, 1, 0), LOST, STAYS);
            everywhere("buyers, n", x -> x.buyers(1, bad), -2, STAYS);
            everywhere("best, n", x -> x.best(bad), -2, STAYS);
        }
        for (int bad : Check.beyond(0, 1)) {
            everywhere("hope, which", x -> x.hope(0, 1, 1, bad), LOST, STAYS);
        }
        for (int bad : Check.beyond(1, 8)) {
            inKingdoms("uses, n", x -> x.uses(1, bad, 1), -2, STAYS);
        }
        for (int bad : Check.beyond(1, 3)) {
            inKingdoms("uses, papers", x -> x.uses(1, 1, bad), -2, STAYS);
        }
        for (int bad : Check.beyond(0, 99)) {
            everywhere("buyers, price", x -> x.buyers(bad, 1), -2, STAYS);
        }
    }

    private static void readingCalls() {
        for (int bad : Check.beyond(0, 3)) {
            everywhere("reading, a", x -> x.reading(bad, 0, true), -1, STAYS);
            everywhere("kinds, a", x -> x.kinds(bad), -1, STAYS);
            everywhere("odds, n", x -> x.odds(1, bad, 0), LOST, STAYS);
        }
        for (int bad : Check.beyond(0, 4)) {
            everywhere("reading, d", x -> x.reading(0, bad, true), -1, STAYS);
            everywhere("risks, d", x -> x.risks(bad), -1, STAYS);
            everywhere("hurts, d", x -> x.hurts(bad), -1, STAYS);
        }
        for (int bad : Check.beyond(0, 8)) {
            everywhere("back, k", x -> x.back(bad), -2, STAYS);
        }
        for (int bad : Check.beyond(0, 31)) {
            everywhere("odds, set", x -> x.odds(bad, 1, 0), LOST, STAYS);
        }
        for (int bad : Check.beyond(0, 1)) {
            everywhere("odds, which", x -> x.odds(1, 1, bad), LOST, STAYS);
        }
    }

    private static void sheetCalls() {
        for (int bad : Check.beyond(0, 3)) {
            everywhere("sheet, k", x -> x.sheet(bad, 0, 1), -1, 0);
            everywhere("lose, k", x -> x.lose(bad), -1, STAYS);
            everywhere("put, k", x -> x.put(bad, 0, 1), -1, 0);
            everywhere("cell, k", x -> x.cell(bad, 0, 0), LOST, 0);
            everywhere("copy, k", x -> x.copy(bad, 0, 0, 0, 1), -1, 0);
            everywhere("copy, other", x -> x.copy(0, 0, bad, 0, 1), -1, 0);
        }
        for (int bad : Check.beyond(0, 2)) {
            everywhere("sheet, lane", x -> x.sheet(0, bad, 1), -2, 0);
            everywhere("cell, lane", x -> x.cell(0, 0, bad), LOST, 0);
        }
        for (int bad : Check.beyond(0, 60)) {
            everywhere("sheet, n", x -> x.sheet(0, 0, bad), bad < 0 ? -14 : -2, bad < 0 ? 4 : 0);
        }
        everywhere("lose, nothing", x -> x.lose(3), 0, STAYS);
    }

    private static void partCalls() {
        for (int bad : Check.beyond(0, 3)) {
            everywhere("tell, a", x -> x.tell(bad), -1, STAYS);
            everywhere("name, a", x -> x.name(bad), -1, STAYS);
            everywhere("as, a", x -> x.as(bad, 0), -1, 0);
            everywhere("many, what", x -> x.many(bad), -2, STAYS);
        }
        for (int bad : Check.beyond(0, 2)) {
            inKingdoms("as, kind", x -> x.as(1, bad), -2, 0);
        }
    }

    private static void withoutKingdom() {
        refused(NOTHING, "ofDeed", x -> x.ofDeed(0, 0), -1, STAYS);
        refused(NOTHING, "ofSubject", x -> x.ofSubject(0, 0), -1, STAYS);
        refused(NOTHING, "fear", x -> x.fear(0, 0), -1, STAYS);
        refused(NOTHING, "alter", x -> x.alter(0, 0, 1), -1, STAYS);
        refused(NOTHING, "grant", x -> x.grant(0, 1), -1, STAYS);
        refused(NOTHING, "year", x -> x.year(0, 0, 0, 1, 0), -3, 0);
        refused(NOTHING, "hope", x -> x.hope(0, 1, 1, 1), LOST, STAYS);
        refused(NOTHING, "uses", x -> x.uses(0, 1, 1), -1, STAYS);
        refused(NOTHING, "buyers", x -> x.buyers(0, 1), -3, STAYS);
        refused(NOTHING, "best", x -> x.best(1), -3, STAYS);
        refused(NOTHING, "reading", x -> x.reading(0, 0, true), -1, STAYS);
        refused(NOTHING, "back", x -> x.back(1), -2, STAYS);
        refused(NOTHING, "risks", x -> x.risks(0), -1, STAYS);
        refused(NOTHING, "hurts", x -> x.hurts(0), -1, STAYS);
        refused(NOTHING, "kinds", x -> x.kinds(0), -1, STAYS);
        refused(NOTHING, "odds", x -> x.odds(0, 1, 1), LOST, STAYS);
        refused(NOTHING, "tell", x -> x.tell(0), -1, STAYS);
        refused(NOTHING, "name", x -> x.name(0), -1, STAYS);
        refused(NOTHING, "as", x -> x.as(0, 0), -1, 0);
    }

    private static void full() {
        refused(FULL, "reading", x -> x.reading(0, 0, true), -4, STAYS);
        refused(FULL, "reading", x -> x.reading(3, 4, false), -4, STAYS);
        refused(SMALL, "back", x -> x.back(3), -2, STAYS);
        refused(SMALL, "odds of a third deed", x -> x.odds(4, 1, 0), LOST, STAYS);
        refused(SMALL, "the third deed", x -> x.alter(2, 0, 1), -1, STAYS);
        refused(SMALL, "the third subject", x -> x.grant(2, 1), -1, STAYS);
    }

    private static void faults() {
        everywhere("kingdom, NULL", x -> x.kingdom(3, 0, 0, 0), -11, 1);
        everywhere("put, NULL", x -> x.put(3, 0, 1), -11, 1);
        everywhere("cell, NULL", x -> x.cell(3, 0, 0), LOST, 1);
        everywhere("copy, NULL", x -> x.copy(3, 0, 0, 0, 1), -11, 1);
        everywhere("copy, NULL of the other", x -> x.copy(0, 0, 3, 0, 1), -11, 1);
        inKingdoms("year, NULL", x -> x.year(3, 0, 0, 0, 0), -11, 1);
        inKingdoms("kingdom, CAST", x -> x.kingdom(0, 1, 0, 1), -12, 2);
        inKingdoms("year, CAST", x -> x.year(0, 2, 0, 1, 0), -12, 2);
        inKingdoms("cell, CAST", x -> x.cell(1, 0, 0), LOST, 2);
        inKingdoms("copy, CAST", x -> x.copy(0, 0, 1, 0, 2), -12, 2);
        inKingdoms("as, CAST", x -> x.as(0, 1), -12, 2);
        inKingdoms("kingdom, SIZE", x -> x.kingdom(0, 0, 0, -1), -14, 4);
        inKingdoms("kingdom, INDEX", x -> x.kingdom(0, 0, 0, 61), -13, 3);
        inKingdoms("year, INDEX", x -> x.year(1, 1, 1, 1, 0), -13, 3);
        inKingdoms("put, INDEX", x -> x.put(1, 3, 5), -13, 3);
        inKingdoms("put, INDEX below", x -> x.put(1, -1, 5), -13, 3);
        inKingdoms("put, INDEX of no cells", x -> x.put(2, 0, 5), -13, 3);
        inKingdoms("cell, INDEX", x -> x.cell(2, 0, 2), LOST, 3);
        // What could be copied ahead of the fault is not.
        inKingdoms("copy, INDEX", x -> x.copy(0, 0, 0, 1, 60), -13, 3);
        inKingdoms("copy, INDEX", x -> x.copy(1, 0, 1, 1, 3), -13, 3);
        inKingdoms("copy, INDEX", x -> x.copy(1, 1, 1, 0, 3), -13, 3);
    }

    private static void texts() {
        inKingdoms("a text that is not taken", x -> x.kingdom(0, 0, 0, 3), -100, 0);
        inKingdoms("no text", x -> x.kingdom(2, 2, 0, 0), -100, 0);
    }

    private static void questions() {
        inKingdoms("ofDeed", x -> x.ofDeed(0, 0), 5, STAYS);
        inKingdoms("ofSubject", x -> x.ofSubject(0, 1), 2, STAYS);
        inKingdoms("fear", x -> x.fear(1, 0), 20, STAYS);
        inKingdoms("alter to the same", x -> x.alter(0, 0, 5), 5, STAYS);
        inKingdoms("grant to the same", x -> x.grant(0, 2), 2, STAYS);
        inKingdoms("year with a paper gone", x -> leftByYear(x), 1, 0);
        inKingdoms("hope", x -> x.hope(0, 8, 3, 1) > 0 ? 1 : 0, 1, STAYS);
        inKingdoms("uses", x -> x.uses(0, 1, 1) & 1, 1, STAYS);
        inKingdoms("buyers", x -> x.buyers(0, 8) & 3, 3, STAYS);
        inKingdoms("best", x -> x.best(0), -9, STAYS);
        inKingdoms("back of none", x -> x.back(0) > 0 ? 1 : 0, 1, STAYS);
        inKingdoms("risks", x -> x.risks(0) >= 0 ? 1 : 0, 1, STAYS);
        inKingdoms("hurts", x -> x.hurts(1) >= 0 ? 1 : 0, 1, STAYS);
        inKingdoms("kinds", x -> x.kinds(1) >= 0 ? 1 : 0, 1, STAYS);
        inKingdoms("odds", x -> x.odds(1, 1, 1), 5, STAYS);
        inKingdoms("copy of none", x -> x.copy(2, 0, 2, 0, 0), 0, 0);
        inKingdoms("cell", x -> x.cell(1, 1, 1), -7, 0);
        inKingdoms("as", x -> x.as(1, 1), 1, 0);
        inKingdoms("trace", x -> x.trace(), 63, STAYS);
        inKingdoms("fault", x -> x.fault(), 2, STAYS);
        inKingdoms("many", x -> x.many(3) > 1 ? 1 : 0, 1, STAYS);
    }

    /** PAPERS left to subject 0 by a year with one DEED done pardoned, whose cells are put back afterwards. */
    private static int leftByYear(BlankPardons x) {
        x.put(0, 0, 0);
        x.put(0, 2, 2);
        int left = x.year(0, 0, 0, 1, 10);
        x.put(0, 0, 1);
        x.put(0, 2, 0);
        return left;
    }
}
