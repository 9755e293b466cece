/** Promises 19 to 23, 28: sheet, lose, put, cell, copy, and the faults that they leave. */
public final class SheetTest {
    private static final Check check = new Check();
    private static final long LOST = Long.MIN_VALUE;
    private static final int MAX = Integer.MAX_VALUE, MIN = Integer.MIN_VALUE;

    public static void main(String[] args) {
        sheet();
        lose();
        put();
        cell();
        copy();
        copyRefusals();
        check.finish();
    }

    private static void answers(BlankPardons x, String call, long got, long want, int fault) {
        check.due(call, got, want);
        check.due(call + ", then fault()", x.fault(), fault);
    }

    private static void sheet() {
        BlankPardons x = new BlankPardons();
        for (int k = 0; k < 4; k++) {
            answers(x, "19: new row", x.sheet(k, k % 3, 60), 1, 0);
            answers(x, "19: put", x.put(k, 59, 5), 1, 0);
            answers(x, "19: no cells", x.sheet(k, k % 3, 0), 1, 0);
            answers(x, "19: no cells", x.put(k, 0, 5), -13, 3);
            answers(x, "19: new row", x.sheet(k, k % 3, 60), 1, 0);
            answers(x, "19: 0 at first", x.cell(k, 59, k % 3), 0, 0);
        }
        x.put(0, 0, 7);
        x.put(1, -1, 0);
        answers(x, "19: unknown first", x.sheet(4, 3, 61), -1, 0);
        answers(x, "19: unknown", x.sheet(-1, 0, 0), -1, 0);
        answers(x, "19: lane ahead of size", x.sheet(0, 3, -1), -2, 0);
        answers(x, "19: lane", x.sheet(0, -1, 1), -2, 0);
        answers(x, "19: above 60", x.sheet(0, 0, 61), -2, 0);
        answers(x, "19: above 60", x.sheet(0, 0, MAX), -2, 0);
        answers(x, "19: below 0", x.sheet(0, 0, -1), -14, 4);
        answers(x, "19: below 0", x.sheet(0, 0, MIN), -14, 4);
        answers(x, "19: refusals change nothing", x.cell(0, 0, 0), 7, 0);
        answers(x, "19: another lane", x.sheet(0, 2, 3), 1, 0);
        answers(x, "19: another lane", x.cell(0, 0, 2), 0, 0);
        answers(x, "19: another length", x.cell(0, 3, 2), LOST, 3);
    }

    private static void lose() {
        BlankPardons x = new BlankPardons();
        check.due("20: nothing", x.lose(2), 0);
        x.sheet(2, 0, 0);
        check.due("20: an empty row is a row", x.lose(2), 1);
        check.due("20: nothing by now", x.lose(2), 0);
        check.due("20: unknown", x.lose(4), -1);
        check.due("20: unknown", x.lose(-1), -1);
        x.put(2, 0, 0);
        check.due("20: names no fault", x.lose(3) + x.fault(), 1);
        check.due("20: names no fault", x.lose(5) + x.fault(), 0);
    }

    private static void put() {
        BlankPardons x = new BlankPardons();
        x.sheet(0, 0, 2);
        x.sheet(1, 1, 2);
        x.sheet(2, 2, 2);
        int[] values = {0, 1, -1, 127, 128, 255, 256, -128, -129, 32767, 32768, 65535, 70001, MAX, MIN};
        for (int v : values) {
            for (int k = 0; k < 3; k++) {
                answers(x, "21: put", x.put(k, 1, v), 1, 0);
                long want = k == 0 ? (byte) v : k == 1 ? (short) v : v;
                answers(x, "21: cut " + v + " in lane " + k, x.cell(k, 1, k), want, 0);
                answers(x, "21: the other cell", x.cell(k, 0, k), 0, 0);
            }
        }
        answers(x, "21: beyond", x.put(0, 2, 1), -13, 3);
        answers(x, "21: below", x.put(0, -1, 1), -13, 3);
        answers(x, "21: far", x.put(0, MAX, 1), -13, 3);
        answers(x, "21: nothing", x.put(3, -1, 1), -11, 1);
        answers(x, "21: unknown", x.put(4, -1, 1), -1, 0);
        answers(x, "21: unknown", x.put(-1, -1, 1), -1, 0);
    }

    private static void cell() {
        BlankPardons x = new BlankPardons();
        x.sheet(0, 1, 2);
        answers(x, "22: unknown", x.cell(4, 0, 1), LOST, 0);
        answers(x, "22: beyond", x.cell(0, 2, 1), LOST, 3);
        answers(x, "22: lane", x.cell(0, 0, 3), LOST, 0);
        answers(x, "22: below", x.cell(0, -1, 1), LOST, 3);
        answers(x, "22: lane", x.cell(0, 0, -1), LOST, 0);
        answers(x, "22: another lane first", x.cell(0, 2, 0), LOST, 2);
        answers(x, "22: unknown", x.cell(-1, 0, 1), LOST, 0);
        answers(x, "22: nothing is no cast", x.cell(1, 9, 2), LOST, 1);
        x.lose(0);
        answers(x, "22: lost", x.cell(0, 0, 1), LOST, 1);
        answers(x, "22: lost", x.cell(0, 0, 0), LOST, 1);
    }

    private static void copy() {
        BlankPardons x = new BlankPardons();
        Check.row(x, 0, 1, 1, 2, 3, 4, 5);
        answers(x, "23: upward in the same", x.copy(0, 0, 0, 1, 4), 4, 0);
        cells(x, 0, 1, 1, 1, 2, 3, 4);
        answers(x, "23: downward in the same", x.copy(0, 2, 0, 0, 3), 3, 0);
        cells(x, 0, 1, 2, 3, 4, 3, 4);
        x.sheet(3, 1, 3);
        answers(x, "23: to another", x.copy(0, 1, 3, 2, 1), 1, 0);
        cells(x, 3, 1, 0, 0, 3);
        cells(x, 0, 1, 2, 3, 4, 3, 4);
        answers(x, "23: none", x.copy(0, 5, 3, 3, 0), 0, 0);
        answers(x, "23: all", x.copy(3, 0, 0, 2, 3), 3, 0);
        cells(x, 0, 1, 2, 3, 0, 0, 3);
    }

    private static void cells(BlankPardons x, int k, int lane, int... want) {
        for (int i = 0; i < want.length; i++) {
            check.due("23: cell " + i, x.cell(k, i, lane), want[i]);
        }
    }

    private static void copyRefusals() {
        BlankPardons x = new BlankPardons();
        Check.row(x, 0, 0, 1, 2, 3);
        Check.row(x, 1, 0, 4, 5);
        Check.row(x, 2, 2, 6);
        answers(x, "23: unknown", x.copy(4, 0, 3, 0, 0), -1, 0);
        answers(x, "23: nothing in the first", x.copy(3, -1, 2, 0, 0), -11, 1);
        answers(x, "23: unknown other ahead of null", x.copy(3, 0, 4, 0, 0), -1, 0);
        answers(x, "23: nothing in the other", x.copy(0, -1, 3, 0, 0), -11, 1);
        answers(x, "23: unknown", x.copy(-1, 0, 0, 0, 0), -1, 0);
        answers(x, "23: unlike lanes", x.copy(0, -1, 2, 0, 0), -12, 2);
        answers(x, "23: unknown", x.copy(0, 0, -1, 0, 0), -1, 0);
        answers(x, "23: i below", x.copy(0, -1, 1, 0, 0), -13, 3);
        answers(x, "23: j below", x.copy(0, 0, 1, -1, 0), -13, 3);
        answers(x, "23: n below", x.copy(0, 0, 1, 0, -1), -13, 3);
        answers(x, "23: i beyond", x.copy(0, 4, 1, 0, 0), -13, 3);
        answers(x, "23: j beyond", x.copy(0, 0, 1, 3, 0), -13, 3);
        answers(x, "23: n beyond the first", x.copy(1, 1, 0, 0, 2), -13, 3);
        answers(x, "23: n beyond the other", x.copy(0, 0, 1, 0, 3), -13, 3);
        answers(x, "23: wraps", x.copy(0, MAX, 1, 0, MAX), -13, 3);
        answers(x, "23: wraps", x.copy(0, 1, 1, 1, MAX), -13, 3);
        answers(x, "23: wraps", x.copy(0, MIN, 1, MIN, MIN), -13, 3);
        cells(x, 0, 0, 1, 2, 3);
        cells(x, 1, 0, 4, 5);
    }
}
