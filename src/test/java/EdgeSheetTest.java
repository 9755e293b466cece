/** Boundary cases of promises 19 to 23 and of the SHEETS of the document's section 5. */
public final class EdgeSheetTest {
    private static final Check check = new Check();
    private static final long LOST = BlankPardons.LOST;
    private static final int MAX = Integer.MAX_VALUE, MIN = Integer.MIN_VALUE;

    public static void main(String[] args) {
        howManyCells();
        sheetRefused();
        newRowsAreEmpty();
        lose();
        cut();
        put();
        cellLanes();
        cell();
        copyOfAll();
        copyOfNone();
        copyAsTheyWere();
        copyNothing();
        copyLanes();
        copyPlaces();
        copyOrder();
        check.finish();
    }

    private static void answers(BlankPardons x, String call, long got, long want, int fault) {
        check.due(call, got, want);
        check.due(call + ", then fault()", x.fault(), fault);
    }

    private static void fill(BlankPardons x, int k, int n) {
        for (int i = 0; i < n; i++) {
            x.put(k, i, i + 1);
        }
    }

    private static void howManyCells() {
        check.sentence("or a row of 0 .. 60 numbers (0 at first) of a LANE: 0 bytes, 1 shorts, 2 ints");
        for (int lane = 0; lane < 3; lane++) {
            for (int k = 0; k < 4; k++) {
                BlankPardons x = new BlankPardons();
                for (int n : new int[] {0, 1, 59, 60}) {
                    answers(x, "sheet of " + n, x.sheet(k, lane, n), 1, 0);
                    if (n > 0) {
                        answers(x, "first cell of " + n, x.cell(k, 0, lane), 0, 0);
                        answers(x, "last cell of " + n, x.put(k, n - 1, 9), 1, 0);
                        answers(x, "last cell of " + n, x.cell(k, n - 1, lane), 9, 0);
                    }
                    answers(x, "one beyond " + n, x.cell(k, n, lane), LOST, 3);
                    answers(x, "one beyond " + n, x.put(k, n, 9), -13, 3);
                }
            }
        }
    }

    private static void sheetRefused() {
        check.sentence("A SHEET gets a new row: 1. UNKNOWN; OUTSIDE: lane, n above 60; SIZE.");
        BlankPardons x = new BlankPardons();
        Check.row(x, 0, 1, 5, 6);
        for (int k : Check.beyond(0, 3)) {
            answers(x, "sheet " + k, x.sheet(k, 0, 1), -1, 0);
            answers(x, "sheet " + k + ", unknown ahead of all", x.sheet(k, 3, 61), -1, 0);
            answers(x, "sheet " + k + ", unknown ahead of size", x.sheet(k, 0, -1), -1, 0);
        }
        for (int lane : Check.beyond(0, 2)) {
            answers(x, "lane " + lane, x.sheet(0, lane, 1), -2, 0);
            answers(x, "lane " + lane + ", outside ahead of size", x.sheet(0, lane, -1), -2, 0);
        }
        for (int n : new int[] {61, 62, 256, 65536, 1 << 30, MAX}) {
            answers(x, "above 60", x.sheet(0, 0, n), -2, 0);
        }
        for (int n : new int[] {-1, -2, -60, -256, MIN, MIN + 1, MIN + 60}) {
            answers(x, "below 0", x.sheet(0, 0, n), -14, 4);
        }
        answers(x, "its row is as it was", x.cell(0, 0, 1), 5, 0);
        answers(x, "its row is as it was", x.cell(0, 1, 1), 6, 0);
        answers(x, "its row is as it was", x.cell(0, 2, 1), LOST, 3);
        answers(x, "nothing comes of size", x.sheet(1, 0, -1), -14, 4);
        check.due("it has nothing", x.lose(1), 0);
    }

    private static void newRowsAreEmpty() {
        check.sentence("(0 at first)");
        BlankPardons x = new BlankPardons();
        x.sheet(0, 2, 60);
        fill(x, 0, 60);
        x.sheet(0, 2, 60);
        for (int i = 0; i < 60; i++) {
            check.due("a row again, cell " + i, x.cell(0, i, 2), 0);
        }
        fill(x, 0, 60);
        x.sheet(0, 0, 1);
        x.sheet(0, 1, 60);
        for (int i = 0; i < 60; i += 59) {
            check.due("a longer row, cell " + i, x.cell(0, i, 1), 0);
        }
        fill(x, 0, 2);
        x.lose(0);
        x.sheet(0, 1, 2);
        check.due("a row again behind nothing", x.cell(0, 0, 1), 0);
        check.due("a row again behind nothing", x.cell(0, 1, 1), 0);
    }

    private static void lose() {
        check.sentence("A SHEET has nothing: 1; 0: it had nothing. UNKNOWN.");
        BlankPardons x = new BlankPardons();
        for (int k = 0; k < 4; k++) {
            x.sheet(k, 0, 0);
        }
        for (int k = 0; k < 4; k++) {
            check.due("no cells are something", x.lose(k), 1);
            check.due("nothing by now", x.lose(k), 0);
            answers(x, "nothing", x.put(k, 0, 0), -11, 1);
            check.due("the next is as it was", k == 3 ? 1 : x.put(k + 1, 0, 0) + 14, 1);
        }
        for (int k : Check.beyond(0, 3)) {
            check.due("lose(" + k + ")", x.lose(k), -1);
        }
    }

    private static void cut() {
        check.sentence("what comes to a cell of it is cut to its LANE");
        int[] bytes = {127, 127, 128, -128, 255, -1, 256, 0, -128, -128, -129, 127, 32767, -1, MAX, -1, MIN, 0};
        int[] shorts = {128, 128, 32767, 32767, 32768, -32768, 65535, -1, 65536, 0, -32768, -32768, -32769, 32767, MAX, -1,
            MIN, 0};
        int[] ints = {65536, 65536, MAX, MAX, MIN, MIN, -32769, -32769, -1, -1};
        int[][] all = {bytes, shorts, ints};
        for (int lane = 0; lane < 3; lane++) {
            BlankPardons x = new BlankPardons();
            x.sheet(3, lane, 60);
            for (int k = 0; k < all[lane].length; k += 2) {
                answers(x, "put " + all[lane][k], x.put(3, 59, all[lane][k]), 1, 0);
                answers(x, all[lane][k] + " in lane " + lane, x.cell(3, 59, lane), all[lane][k + 1], 0);
            }
        }
    }

    private static void put() {
        check.sentence("Cell i of a SHEET becomes v: 1. UNKNOWN; NULL; INDEX.");
        BlankPardons x = new BlankPardons();
        for (int k : Check.beyond(0, 3)) {
            answers(x, "sheet " + k, x.put(k, 0, 0), -1, 0);
        }
        answers(x, "nothing ahead of index", x.put(0, -1, 0), -11, 1);
        answers(x, "nothing", x.put(3, 0, 0), -11, 1);
        Check.row(x, 0, 0, 1, 2, 3);
        for (int i : Check.beyond(0, 2)) {
            answers(x, "cell " + i, x.put(0, i, 9), -13, 3);
        }
        x.sheet(1, 2, 0);
        answers(x, "no cells", x.put(1, 0, 9), -13, 3);
        x.put(0, 1, 7);
        int[] want = {1, 7, 3};
        for (int i = 0; i < 3; i++) {
            answers(x, "cell " + i, x.cell(0, i, 0), want[i], 0);
        }
    }

    private static void cellLanes() {
        check.sentence("FAULTS CAST (nothing is no CAST), NULL, INDEX.");
        BlankPardons x = new BlankPardons();
        for (int lane = 0; lane < 3; lane++) {
            for (int as = 0; as < 3; as++) {
                x.lose(0);
                answers(x, "nothing as " + as, x.cell(0, 0, as), LOST, 1);
                answers(x, "nothing ahead of index", x.cell(0, -1, as), LOST, 1);
                x.sheet(0, lane, 1);
                answers(x, lane + " as " + as, x.cell(0, 0, as), as == lane ? 0 : LOST, as == lane ? 0 : 2);
                answers(x, "cast ahead of index", x.cell(0, 1, as), LOST, as == lane ? 3 : 2);
                x.sheet(0, lane, 0);
                answers(x, "no cells", x.cell(0, 0, as), LOST, as == lane ? 3 : 2);
            }
        }
    }

    private static void cell() {
        check.sentence("Cell i of what a SHEET has, taken as a row of a LANE. LOST: UNKNOWN, OUTSIDE: lane;");
        BlankPardons x = new BlankPardons();
        Check.row(x, 3, 2, 5, MIN, MAX);
        answers(x, "first", x.cell(3, 0, 2), 5, 0);
        answers(x, "least number, which is not LOST", x.cell(3, 1, 2), MIN, 0);
        answers(x, "last", x.cell(3, 2, 2), MAX, 0);
        for (int k : Check.beyond(0, 3)) {
            x.cell(3, 3, 2);
            answers(x, "sheet " + k, x.cell(k, 0, 2), LOST, 0);
        }
        for (int lane : Check.beyond(0, 2)) {
            x.cell(3, 3, 2);
            answers(x, "lane " + lane, x.cell(3, 0, lane), LOST, 0);
            x.cell(3, 3, 2);
            answers(x, "outside ahead of null", x.cell(0, 0, lane), LOST, 0);
        }
        for (int i : Check.beyond(0, 2)) {
            answers(x, "cell " + i, x.cell(3, i, 2), LOST, 3);
        }
    }

    private static void cells(BlankPardons x, int k, int... want) {
        for (int i = 0; i < want.length; i++) {
            check.due("cell " + i + " of " + k, x.cell(k, i, 2), want[i]);
        }
    }

    private static void copyOfAll() {
        check.sentence("n cells of a SHEET from i on go to another one (perhaps the same) from j on, as they were: n.");
        BlankPardons x = new BlankPardons();
        x.sheet(0, 2, 60);
        x.sheet(3, 2, 60);
        fill(x, 0, 60);
        answers(x, "all to another", x.copy(0, 0, 3, 0, 60), 60, 0);
        for (int i = 0; i < 60; i++) {
            check.due("cell " + i, x.cell(3, i, 2), i + 1);
        }
        answers(x, "all onto themselves", x.copy(3, 0, 3, 0, 60), 60, 0);
        check.due("as they were", x.cell(3, 59, 2), 60);
        x.put(0, 0, 77);
        check.due("a copy, not the same row", x.cell(3, 0, 2), 1);
        answers(x, "the last to the first", x.copy(0, 59, 3, 0, 1), 1, 0);
        check.due("it is there", x.cell(3, 0, 2), 60);
        answers(x, "the first to the last", x.copy(0, 0, 3, 59, 1), 1, 0);
        check.due("it is there", x.cell(3, 59, 2), 77);
    }

    private static void copyOfNone() {
        BlankPardons x = new BlankPardons();
        Check.row(x, 0, 2, 1, 2);
        x.sheet(1, 2, 0);
        answers(x, "none", x.copy(0, 0, 0, 0, 0), 0, 0);
        answers(x, "none behind the last", x.copy(0, 2, 0, 2, 0), 0, 0);
        answers(x, "none to no cells", x.copy(0, 1, 1, 0, 0), 0, 0);
        answers(x, "none of no cells", x.copy(1, 0, 0, 1, 0), 0, 0);
        answers(x, "none of no cells to itself", x.copy(1, 0, 1, 0, 0), 0, 0);
        answers(x, "one of no cells", x.copy(1, 0, 0, 0, 1), -13, 3);
        answers(x, "one to no cells", x.copy(0, 0, 1, 0, 1), -13, 3);
        cells(x, 0, 1, 2);
    }

    private static void copyAsTheyWere() {
        check.sentence("(perhaps the same) from j on, as they were");
        BlankPardons x = new BlankPardons();
        Check.row(x, 0, 2, 1, 2, 3, 4, 5);
        answers(x, "one place up", x.copy(0, 0, 0, 1, 4), 4, 0);
        cells(x, 0, 1, 1, 2, 3, 4);
        Check.row(x, 0, 2, 1, 2, 3, 4, 5);
        answers(x, "one place down", x.copy(0, 1, 0, 0, 4), 4, 0);
        cells(x, 0, 2, 3, 4, 5, 5);
        Check.row(x, 0, 2, 1, 2, 3, 4, 5);
        answers(x, "two places up", x.copy(0, 0, 0, 2, 3), 3, 0);
        cells(x, 0, 1, 2, 1, 2, 3);
        // Numbers at the ends of their LANE go as they are.
        for (int lane = 0; lane < 3; lane++) {
            int[] most = {127, 32767, MAX};
            BlankPardons y = new BlankPardons();
            Check.row(y, 1, lane, most[lane], -most[lane] - 1);
            y.sheet(2, lane, 2);
            answers(y, "copy in lane " + lane, y.copy(1, 0, 2, 0, 2), 2, 0);
            check.due("the most", y.cell(2, 0, lane), most[lane]);
            check.due("the least", y.cell(2, 1, lane), -most[lane] - 1);
        }
    }

    private static void copyNothing() {
        check.sentence("FAULTS NULL (the first, the other)");
        BlankPardons x = new BlankPardons();
        x.sheet(0, 0, 3);
        answers(x, "nothing in the first", x.copy(1, 0, 0, 0, 0), -11, 1);
        answers(x, "nothing in the other", x.copy(0, 0, 1, 0, 0), -11, 1);
        answers(x, "nothing in both", x.copy(1, 0, 2, 0, 0), -11, 1);
        answers(x, "nothing in the same", x.copy(1, 0, 1, 0, 0), -11, 1);
        x.lose(0);
        answers(x, "lost", x.copy(0, 0, 0, 0, 0), -11, 1);
        // What a SHEET had, or never had, is of no LANE: NULL, not CAST.
        for (int lane = 0; lane < 3; lane++) {
            for (int lost = 0; lost < 3; lost++) {
                x.sheet(1, lost, 1);
                x.lose(1);
                x.sheet(0, lane, 1);
                answers(x, "lost in the first", x.copy(1, 0, 0, 0, 0), -11, 1);
                answers(x, "lost in the other", x.copy(0, 0, 1, 0, 0), -11, 1);
                answers(x, "never there", x.copy(0, 0, 3, 0, 0), -11, 1);
            }
        }
    }

    private static void copyLanes() {
        check.sentence("CAST (unlike LANES), INDEX: i, j, n below 0 or beyond.");
        for (int lane = 0; lane < 3; lane++) {
            for (int other = 0; other < 3; other++) {
                BlankPardons x = new BlankPardons();
                x.sheet(0, lane, 1);
                x.sheet(1, other, 1);
                boolean alike = lane == other;
                answers(x, lane + " to " + other, x.copy(0, 0, 1, 0, 1), alike ? 1 : -12, alike ? 0 : 2);
                answers(x, "none of them", x.copy(0, 0, 1, 0, 0), alike ? 0 : -12, alike ? 0 : 2);
            }
        }
    }

    private static void copyPlaces() {
        BlankPardons x = new BlankPardons();
        Check.row(x, 0, 2, 1, 2, 3);
        Check.row(x, 1, 2, 4, 5, 6, 7);
        int[][] beyond = {{-1, 0, 0}, {-1, 0, 1}, {4, 0, 0}, {3, 0, 1}, {0, -1, 0}, {0, -1, 1}, {0, 5, 0}, {0, 4, 1},
            {0, 0, -1}, {0, 0, 4}, {1, 0, 3}, {0, 2, 3}, {3, 4, -1}, {MIN, 0, 0}, {MAX, 0, 0}, {0, MIN, 0}, {0, MAX, 0},
            {0, 0, MIN}, {0, 0, MAX}, {1, 1, MAX}, {MAX, 0, 1}, {0, MAX, 1}, {MAX, MAX, MAX}, {MIN, MIN, MIN},
            {MIN, MIN, MAX}, {MAX, MAX, MIN}, {MAX, MAX, 2}, {3, 4, MAX - 2}, {-3, 0, 3}, {0, -3, 3}, {1, 1, -1}};
        for (int[] p : beyond) {
            String call = "copy(0, " + p[0] + ", 1, " + p[1] + ", " + p[2] + ")";
            answers(x, call, x.copy(0, p[0], 1, p[1], p[2]), -13, 3);
        }
        cells(x, 0, 1, 2, 3);
        cells(x, 1, 4, 5, 6, 7);
        answers(x, "the last cells that there are", x.copy(0, 1, 1, 2, 2), 2, 0);
        cells(x, 1, 4, 5, 2, 3);
        answers(x, "the longer to the shorter", x.copy(1, 1, 0, 0, 3), 3, 0);
        cells(x, 0, 5, 2, 3);
    }

    private static void copyOrder() {
        check.sentence("of several the first in the order in which a call's line tells them");
        BlankPardons x = new BlankPardons();
        for (int k : Check.beyond(0, 3)) {
            answers(x, "the first " + k, x.copy(k, -1, 0, -1, -1), -1, 0);
            answers(x, "the other " + k + ", ahead of null", x.copy(0, -1, k, -1, -1), -1, 0);
        }
        answers(x, "null ahead of index", x.copy(0, -1, 1, -1, -1), -11, 1);
        x.sheet(0, 0, 1);
        answers(x, "null of the other ahead of index", x.copy(0, -1, 1, -1, -1), -11, 1);
        x.sheet(1, 1, 1);
        answers(x, "cast ahead of index", x.copy(0, -1, 1, -1, -1), -12, 2);
        x.sheet(1, 0, 1);
        answers(x, "index", x.copy(0, -1, 1, -1, -1), -13, 3);
    }
}
