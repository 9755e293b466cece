/** Runs of exactly 512 calls on one object, reckoned here step by step: the last answers are as due as the first. */
public final class LongRunTest {
    private static final int CALLS = 512;
    private static final Check check = new Check();

    private final BlankPardons x = new BlankPardons();
    private final String run;
    private int calls;

    private LongRunTest(String run) {
        this.run = run;
    }

    public static void main(String[] args) {
        check.sentence("An object is used for at most 512 calls after it has been made");
        new LongRunTest("kingdoms").kingdoms();
        new LongRunTest("deeds").deeds();
        new LongRunTest("papers").papers();
        new LongRunTest("years").years();
        new LongRunTest("hopes").hopes();
        new LongRunTest("readings").readings();
        new LongRunTest("sheets").sheets();
        new LongRunTest("turned row").turnedRow();
        new LongRunTest("faults").faults();
        new LongRunTest("bodies").bodies();
        check.finish();
    }

    private void due(String call, long got, long want) {
        calls++;
        check.due(run + ", call " + calls + ": " + call, got, want);
    }

    private boolean leaves(int more) {
        return calls <= CALLS - more;
    }

    private void write(int sheet, int lane, int... cells) {
        due("sheet", x.sheet(sheet, lane, cells.length), 1);
        for (int i = 0; i < cells.length; i++) {
            due("put", x.put(sheet, i, cells[i]), 1);
        }
    }

    private void write(int sheet, int lane, String text) {
        write(sheet, lane, text.chars().toArray());
    }

    private void found(int sheet, int lane, String text, int subjects) {
        write(sheet, lane, text);
        due("kingdom", x.kingdom(sheet, lane, 0, text.length()), subjects);
    }

    /** What is left of the 512 calls asks the same thing. */
    private void finish(int what, int want) {
        while (calls < CALLS) {
            due("many(" + what + ")", x.many(what), want);
        }
        check.holds(run + " has " + CALLS + " calls", calls == CALLS);
    }

    /** Three texts, one after another, again and again: the third is not taken, so the second stays. */
    private void kingdoms() {
        write(0, 0, "p/425/364;s1;h0;m3");
        write(1, 1, "p/999;h2");
        write(2, 2, "p/111/222;s4");
        for (int k = 0; leaves(8); k++) {
            due("first", x.kingdom(0, 0, 0, 18), 3);
            due("its reading", x.reading(2, 1, k % 2 == 0), 0);
            due("second", x.kingdom(1, 1, 0, 8), 1);
            due("no readings", x.many(3), 0);
            due("third", x.kingdom(2, 2, 0, 12), -111);
            due("second deed", x.ofDeed(1, 0), -1);
            due("first deed", x.ofDeed(0, k % 3), 9);
            due("papers", x.many(2), 2);
        }
        finish(0, 1);
    }

    private void deeds() {
        found(0, 2, "p/000/000/000/000/000;s0", 1);
        int[] numbers = new int[15];
        for (int k = 0; leaves(2); k++) {
            int at = 7 * k % 15;
            int v = k * k % 10;
            due("alter", x.alter(at / 3, at % 3, v), numbers[at]);
            numbers[at] = v;
            int other = 4 * k % 15;
            due("ofDeed", x.ofDeed(other / 3, other % 3), numbers[other]);
        }
        finish(1, 5);
    }

    private void papers() {
        found(0, 0, "p/111;s0;s0;s0;s0", 4);
        int[] has = new int[4];
        for (int k = 0; leaves(3); k++) {
            int a = (k + k / 4) % 4;
            int v = k / 3 % 4;
            due("grant", x.grant(a, v), has[a]);
            has[a] = v;
            due("many", x.many(2), has[0] + has[1] + has[2] + has[3]);
            due("ofSubject", x.ofSubject(k % 4, 1), has[k % 4]);
        }
        finish(0, 4);
    }

    /** A year uses no papers up, however often it is told. */
    private void years() {
        found(0, 0, "p/425/364;s1;h2", 2);
        // 30 by DEED 0 unpardoned, 30 by DEED 1 pardoned, 40 and 30 by the HOLY one's papers.
        write(1, 1, 0, 0, 1, 0, 1, 2, 1, 0, 2, 1, 1, 2, 1, 0, 0);
        write(2, 2, 1, 0, 2, 1, 0, 2, 1, 0, 2);
        while (leaves(6)) {
            due("values", x.year(1, 1, 0, 5, 0), 130);
            due("pardoned", x.year(1, 1, 0, 5, 2), 3);
            due("left", x.year(1, 1, 0, 5, 11), 0);
            due("wrong", x.year(2, 2, 0, 3, 1), 2);
            due("two of it", x.year(2, 2, 0, 2, 11), 0);
            due("papers", x.many(2), 3);
        }
        finish(2, 3);
    }

    /** One DEED, 30 pardoned and 5 unpardoned: HOPE is 5 a DAY, and 25 more by each PAPER that there is a DAY for. */
    private void hopes() {
        found(0, 0, "p/355;s3;m0", 2);
        for (int k = 0; leaves(5); k++) {
            int n = k % 9;
            int papers = k % 4;
            due("upper", x.hope(0, n, papers, 0), 5 * n + 25 * Math.min(n, papers));
            due("lower", x.hope(0, n, papers, 1), 1);
            // As long as there are more DAYS than PAPERS, today and later are alike.
            due("uses", x.uses(0, n, papers), n == 0 || papers == 0 ? -2 : n <= papers ? 1 : 0);
            // The MEEK one does nothing unpardoned, so that a PAPER is worth 30 to them.
            due("buyers", x.buyers(26, n), n > 0 ? 2 : 0);
            due("best", x.best(n), n > 0 ? 25 : -9);
        }
        finish(3, 0);
    }

    /** Up to eight and down to none, again and again; a READING and its contrary can't both be so. */
    private void readings() {
        found(0, 0, "p/511;s0;m0;h0", 3);
        while (leaves(13)) {
            for (int k = 0; k < 8; k++) {
                due("reading", x.reading(k % 3, 0, k % 3 != 2 || k > 5), k);
            }
            due("full", x.reading(0, 0, true), -4);
            // HOLY: 50 less 2 (RISK + 10) is above 0 by 0 .. 9, so that the third READING is never so.
            due("risks", x.risks(0), 0);
            due("back", x.back(6), 2);
            due("two", x.risks(0), 1023);
            due("none", x.back(2), 0);
        }
        finish(3, 0);
    }

    private void sheets() {
        for (int k = 0; leaves(6); k++) {
            int sheet = k % 4;
            int lane = k % 3;
            int v = 40503 * k;
            long cut = lane == 0 ? (byte) v : lane == 1 ? (short) v : v;
            due("sheet", x.sheet(sheet, lane, 1 + k % 60), 1);
            due("new", x.cell(sheet, k % 60, lane), 0);
            due("put", x.put(sheet, k % 60, v), 1);
            due("cell", x.cell(sheet, k % 60, lane), cut);
            due("lose", x.lose(sheet), 1);
            due("nothing", x.lose(sheet), 0);
        }
        finish(0, 0);
    }

    /** A row of 60 that is turned by one cell at a time, by way of a second sheet. */
    private void turnedRow() {
        due("row", x.sheet(0, 2, 60), 1);
        due("one cell", x.sheet(1, 2, 1), 1);
        for (int i = 0; i < 60; i++) {
            due("put", x.put(0, i, i * i), 1);
        }
        for (int turn = 1; leaves(4); turn++) {
            due("out", x.copy(0, 0, 1, 0, 1), 1);
            due("down", x.copy(0, 1, 0, 0, 59), 59);
            due("in", x.copy(1, 0, 0, 59, 1), 1);
            int at = (turn + 7) % 60;
            due("cell", x.cell(0, 7, 2), at * at);
        }
        finish(0, 0);
    }

    /** Each fault is told until the next call that names one; calls that name none leave it. */
    private void faults() {
        found(0, 0, "p/111;s0", 1);
        while (leaves(13)) {
            due("CAST", x.as(0, 1), -12);
            due("names none", x.lose(1), 0);
            due("told", x.fault(), 2);
            due("NULL", x.put(1, 0, 0), -11);
            due("told", x.fault(), 1);
            due("INDEX", x.copy(0, 8, 0, 0, 1), -13);
            due("names none", x.hope(0, 9, 0, 0), BlankPardons.LOST);
            due("told", x.fault(), 3);
            due("SIZE", x.sheet(1, 0, -1), -14);
            due("told", x.fault(), 4);
            due("told again", x.fault(), 4);
            due("none", x.cell(0, 0, 0), 'p');
            due("told", x.fault(), 0);
        }
        finish(0, 1);
    }

    private void bodies() {
        found(0, 0, "p/111;s1;m2;h3", 3);
        int trace = 0;
        while (leaves(9)) {
            due("subject", x.tell(0), 1);
            due("meek", x.tell(1), 102);
            due("holy", x.tell(2), 106);
            trace = left(trace, 1, 2, 1, 3, 2, 1, 1);
            due("trace", x.trace(), trace);
            due("lent", x.name(0), 0);
            due("lent", x.name(1), 1);
            due("own", x.name(2), 70);
            trace = left(trace, 4, 4, 5);
            due("trace", x.trace(), trace);
            due("none", x.tell(3), -1);
        }
        finish(2, 6);
    }

    private static int left(int from, int... bodies) {
        int trace = from;
        for (int body : bodies) {
            trace = 31 * trace + body;
        }
        return trace;
    }
}
