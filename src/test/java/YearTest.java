/** Promise 8: year. */
public final class YearTest {
    private static final Check check = new Check();
    private static final int MAX = Integer.MAX_VALUE, MIN = Integer.MIN_VALUE;

    public static void main(String[] args) {
        for (int lane = 0; lane < 3; lane++) {
            told(lane);
            wrongOnes(lane);
        }
        order();
        edges();
        unknownCells();
        check.finish();
    }

    private static void told(int lane) {
        // VALUES unpardoned: s 30, m 20, h 0 of deed 0; s 1, m -9, h -28 of deed 1.
        BlankPardons x = Check.in("p/425/133;s3;m1;h0");
        Check.row(x, 0, lane, 9, 0, 0, 1, 1, 1, 2, 0, 0, 2, 2, 1, 0, 0, 1, 2, 1, 0, 1);
        check.due("8: values", x.year(0, lane, 1, 6, 0), 30 + 10 + 40 + 0 + 10 + 20);
        check.due("8: none is wrong", x.year(0, lane, 1, 6, 1), -9);
        check.due("8: pardoned", x.year(0, lane, 1, 6, 2), 3);
        check.due("8: left to 0", x.year(0, lane, 1, 6, 10), 1);
        check.due("8: left to 1", x.year(0, lane, 1, 6, 11), 0);
        check.due("8: left to 2", x.year(0, lane, 1, 6, 12), 0);
        check.due("8: there is no 3", x.year(0, lane, 1, 6, 13), -9);
        check.due("8: papers stay", x.many(2), 4);
        check.due("8: fault", x.fault(), 0);
        check.due("8: no triples", x.year(0, lane, 19, 0, 0), 0);
        check.due("8: no triples, left", x.year(0, lane, 0, 0, 10), 3);
    }

    private static void wrongOnes(int lane) {
        BlankPardons x = Check.in("p/425/919;s1;h0");
        Check.row(x, 1, lane, 0, 0, 2, 0, 0, 2, 1, 0, 1, 1, 1, 1);
        wrong(x, x.year(1, lane, 0, 2, 0), -100001);
        wrong(x, x.year(1, lane, 0, 4, 2), -100001);
        wrong(x, x.year(1, lane, 0, 4, 10), -100001);
        wrong(x, x.year(1, lane, 0, 4, 13), -100001);
        wrong(x, x.year(1, lane, 0, 4, 1), 1);
        // A VALUE of 0 is not above 0.
        wrong(x, x.year(1, lane, 6, 2, 1), 0);
        wrong(x, x.year(1, lane, 6, 2, 0), -100000);
        wrong(x, x.year(1, lane, 9, 1, 0), 52);
        x.grant(0, 2);
        wrong(x, x.year(1, lane, 0, 4, 1), 2);
        wrong(x, x.year(1, lane, 0, 2, 10), 0);
        x.alter(0, 2, 4);
        wrong(x, x.year(1, lane, 0, 4, 1), -9);
        wrong(x, x.year(1, lane, 0, 4, 0), 80 + 4 + 52);
    }

    private static void wrong(BlankPardons x, int answer, int want) {
        check.due("8: year with a wrong triple", answer, want);
        check.due("8: that is no fault", x.fault(), 0);
    }

    private static void order() {
        BlankPardons x = new BlankPardons();
        refused(x, x.year(4, 3, -1, -1, 3), -1);
        refused(x, x.year(-1, 0, 0, 0, 0), -1);
        refused(x, x.year(0, 3, 0, 0, 0), -2);
        refused(x, x.year(0, -1, 0, 0, 0), -2);
        refused(x, x.year(0, 0, 0, -1, 0), -2);
        refused(x, x.year(0, 0, 0, 21, 0), -2);
        refused(x, x.year(0, 0, 0, MAX, 0), -2);
        for (int what : new int[] {MIN, -1, 3, 9, 14, MAX}) {
            refused(x, x.year(0, 0, 0, 0, what), -2);
        }
        refused(x, x.year(0, 0, 0, 20, 13), -3);
        Check.found(x, "p/425;s1");
        refused(x, x.year(0, 0, -1, 20, 0), -11);
        Check.row(x, 0, 1, 5, 5, 5);
        refused(x, x.year(0, 0, -1, 20, 0), -12);
        refused(x, x.year(0, 2, 0, 0, 0), -12);
        refused(x, x.year(0, 1, -1, 0, 0), -13);
        refused(x, x.year(0, 1, 4, 0, 0), -13);
        refused(x, x.year(0, 1, 1, 1, 0), -13);
        refused(x, x.year(0, 1, 0, 2, 0), -13);
        refused(x, x.year(0, 1, MAX, 20, 0), -13);
        refused(x, x.year(0, 1, MIN, 20, 0), -13);
        refused(x, x.year(0, 1, 0, 1, 0), -1);
        refused(x, x.year(0, 1, 3, 0, 0), 0);
    }

    private static void refused(BlankPardons x, int answer, int want) {
        check.due("8: order of refusals", answer, want);
        check.due("8: fault of " + want, x.fault(), want <= -11 ? -10 - want : 0);
    }

    private static void edges() {
        BlankPardons x = Check.in("p/900;s0;s0;s0;s3");
        x.sheet(0, 0, 60);
        for (int t = 0; t < 20; t++) {
            x.put(0, 3 * t + 2, 1);
        }
        check.due("8: 20 triples", x.year(0, 0, 0, 20, 0), 1800);
        check.due("8: left to 3", x.year(0, 0, 0, 20, 13), 3);
        x.put(0, 59, 2);
        check.due("8: the last is wrong", x.year(0, 0, 0, 20, 1), 19);
        check.due("8: the last is wrong", x.year(0, 0, 0, 20, 0), -100019);
        x.put(0, 59, 0);
        check.due("8: the last is let be", x.year(0, 0, 0, 20, 0), 1710);
    }

    private static void unknownCells() {
        BlankPardons x = Check.in("p/900/900;s0;s0;s0");
        int[][] bad = {{3, 0, 0}, {-1, 0, 0}, {0, 2, 0}, {0, -1, 0}, {0, 0, 3}, {0, 0, -1}};
        for (int[] triple : bad) {
            Check.row(x, 0, 0, 0, 0, 1, triple[0], triple[1], triple[2]);
            check.due("8: unknown cell", x.year(0, 0, 0, 2, 1), -1);
            check.due("8: ahead of it", x.year(0, 0, 0, 1, 0), 90);
            // A FIRST WRONG is an answer; refusals come ahead of any.
            x.put(0, 2, 2);
            check.due("8: unknown cell behind a wrong triple", x.year(0, 0, 0, 2, 1), -1);
        }
    }
}
