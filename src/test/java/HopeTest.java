/** Promises 9 to 12: hope, uses, buyers, best. */
public final class HopeTest {
    private static final Check check = new Check();
    private static final long LOST = Long.MIN_VALUE;

    public static void main(String[] args) {
        oneDeed();
        twoDeeds();
        alike();
        leastTerms();
        mostOfAll();
        refusals();
        buyers();
        best();
        byTheWholePlan();
        check.finish();
    }

    private static void hope(BlankPardons x, int a, int n, int papers, long upper, long lower) {
        String call = "9: hope(" + a + ", " + n + ", " + papers + ", ";
        check.due(call + "0)", x.hope(a, n, papers, 0), upper);
        check.due(call + "1)", x.hope(a, n, papers, 1), lower);
    }

    private static void oneDeed() {
        // VALUES: 90 pardoned, 9 (s), -1 (m), -92 (h) unpardoned.
        BlankPardons x = Check.in("p/999;s0;m3;h1");
        hope(x, 0, 0, 3, 0, 1);
        hope(x, 0, 8, 0, 72, 1);
        hope(x, 0, 8, 3, 315, 1);
        hope(x, 0, 2, 3, 180, 1);
        hope(x, 1, 8, 0, 0, 1);
        hope(x, 1, 8, 2, 180, 1);
        hope(x, 2, 1, 1, 90, 1);
        check.due("10: alike on later days", x.uses(0, 8, 1), 0);
        check.due("10: the last day", x.uses(0, 1, 1), 1);
        check.due("10: papers for all days", x.uses(2, 3, 3), 1);
        check.due("9: papers stay", x.many(2), 4);
    }

    private static void twoDeeds() {
        // s: unpardoned 10 and -5 (let be); pardoned 20 and 40.
        BlankPardons x = Check.in("p/225/459;s0");
        hope(x, 0, 1, 0, 5, 1);
        hope(x, 0, 1, 1, 30, 1);
        // By one paper and two days: deed 0 waits (10 + 30 against 20 + 5), deed 1 does not (40 + 5 against 30).
        hope(x, 0, 2, 1, 85, 2);
        hope(x, 0, 2, 2, 60, 1);
        // By three days: deed 0 waits again (10 + 85/2), deed 1 does not (40 + 10).
        hope(x, 0, 3, 1, 205, 4);
        check.due("10: deed 1", x.uses(0, 2, 1), 2);
        check.due("10: both", x.uses(0, 2, 2), 3);
        check.due("10: both", x.uses(0, 1, 1), 3);
        x.alter(1, 0, 0);
        check.due("10: nothing to bring", x.uses(0, 1, 1), 1);
        x.alter(0, 1, 0);
        check.due("10: nothing to fear", x.uses(0, 1, 3), 0);
        hope(x, 0, 8, 3, 80, 1);
    }

    private static void alike() {
        // A meek one's and a holy one's FEAR of a DEED that is never found out.
        BlankPardons x = Check.in("p/100/200;s0;m0;h0");
        check.due("10: s needs none", x.uses(0, 1, 1), 0);
        check.due("10: m", x.uses(1, 1, 1), 3);
        check.due("10: h", x.uses(2, 1, 1), 3);
        // m: both DEEDS gain 10 by a paper, now or tomorrow: alike.
        check.due("10: m, two days", x.uses(1, 2, 1), 0);
        // h: gains 10 by deed 0, 20 by deed 1, 15 on the mean.
        check.due("10: h, two days", x.uses(2, 2, 1), 2);
    }

    private static void leastTerms() {
        BlankPardons x = Check.in("p/100/000/000/000/000;s0");
        hope(x, 0, 1, 0, 2, 1);
        hope(x, 0, 8, 3, 16, 1);
        x.alter(0, 1, 1);
        x.alter(0, 2, 1);
        hope(x, 0, 1, 0, 9, 5);
        hope(x, 0, 5, 0, 9, 1);
        hope(x, 0, 8, 0, 72, 5);
        // One paper gains 1, if deed 0 comes at all: 1 less (4/5)^n.
        hope(x, 0, 2, 1, 90 + 9, 25);
        hope(x, 0, 8, 1, 72 * 78125 + 390625 - 65536, 390625);
    }

    /** As many deeds and subjects as there may be, and then fewer. */
    private static void mostOfAll() {
        BlankPardons x = Check.in("p/999/999/999/999/999;h0;h0;h0;h3");
        hope(x, 3, 8, 3, 270, 1);
        check.due("10: five deeds", x.uses(3, 1, 1), 31);
        check.due("11: four buyers", x.buyers(90, 8), 15);
        check.due("12: four buyers", x.best(8), 90);
        Check.found(x, "p/999;h0");
        hope(x, 0, 8, 3, 270, 1);
        check.due("10: none of the deeds that were", x.uses(0, 1, 1), 1);
        check.due("11: none of the subjects that were", x.buyers(90, 1), 1);
    }

    private static void refusals() {
        BlankPardons x = Check.in("p/225/459;s0;m0");
        check.due("9: subject", x.hope(2, 0, 0, 0), LOST);
        check.due("9: subject", x.hope(-1, 0, 0, 0), LOST);
        check.due("9: n", x.hope(0, 9, 0, 0), LOST);
        check.due("9: n", x.hope(0, -1, 0, 0), LOST);
        check.due("9: papers", x.hope(0, 0, 4, 0), LOST);
        check.due("9: papers", x.hope(0, 0, -1, 0), LOST);
        check.due("9: which", x.hope(0, 0, 0, 2), LOST);
        check.due("9: which", x.hope(0, 0, 0, -1), LOST);
        check.due("10: unknown first", x.uses(2, 0, 0), -1);
        check.due("10: unknown", x.uses(-1, 1, 1), -1);
        check.due("10: n", x.uses(0, 0, 1), -2);
        check.due("10: n", x.uses(0, 9, 1), -2);
        check.due("10: papers", x.uses(0, 1, 0), -2);
        check.due("10: papers", x.uses(0, 1, 4), -2);
        check.due("10: papers", x.uses(0, 1, -1), -2);
        BlankPardons none = new BlankPardons();
        check.due("9: no kingdom", none.hope(0, 0, 0, 0), LOST);
        check.due("10: no kingdom", none.uses(0, 0, 0), -1);
        for (int n : new int[] {-1, 9}) {
            check.due("11: n", none.buyers(0, n), -2);
            check.due("12: n", none.best(n), -2);
            check.due("11: n", x.buyers(0, n), -2);
            check.due("12: n", x.best(n), -2);
        }
        for (int price : new int[] {-1, 100}) {
            check.due("11: price", none.buyers(price, 0), -2);
            check.due("11: price", x.buyers(price, 0), -2);
        }
        check.due("11: state", none.buyers(99, 8), -3);
        check.due("12: state", none.best(8), -3);
    }

    private static void buyers() {
        // One paper gains 5 (s), 15 (m), 20 (h: not done at all unpardoned).
        BlankPardons x = Check.in("p/215;s3;m0;h2");
        check.due("11: nobody gains by no days", x.buyers(0, 0), 7);
        check.due("11: nobody gains by no days", x.buyers(1, 0), 0);
        check.due("11: 5", x.buyers(5, 1), 7);
        check.due("11: 6", x.buyers(6, 1), 6);
        check.due("11: 15", x.buyers(15, 8), 6);
        check.due("11: 16", x.buyers(16, 8), 4);
        check.due("11: 20", x.buyers(20, 1), 4);
        check.due("11: 21", x.buyers(21, 1), 0);
        check.due("11: 99", x.buyers(99, 8), 0);
        // Gains of 5/2: at 2, not at 3.
        BlankPardons y = Check.in("p/215/000;s0");
        check.due("11: 2", y.buyers(2, 1), 1);
        check.due("11: 3", y.buyers(3, 1), 0);
    }

    private static void best() {
        BlankPardons x = Check.in("p/215;s3;m0;h2");
        check.due("12: 15 twice", x.best(1), 15);
        check.due("12: no days", x.best(0), -9);
        // Gains of 10 and 20: 10 twice is as much as 20 once.
        BlankPardons y = Check.in("p/200;m0;h0");
        check.due("12: the least of several", y.best(1), 10);
        BlankPardons z = Check.in("p/999;h0");
        check.due("12: 90", z.best(8), 90);
        BlankPardons u = Check.in("p/900;s3;s0");
        check.due("12: nothing to fear", u.best(8), -9);
        check.due("12: a gain of 1", Check.in("p/211;s3").best(1), 1);
        // A gain of 1/2 is no whole price.
        BlankPardons v = Check.in("p/211/000;s3");
        check.due("12: no buyers at 1", v.best(1), -9);
        check.due("12: no buyers at 1", v.best(8), -9);
        check.due("11: but at 0", v.buyers(0, 8), 1);
    }

    /** HOPE is at least what any plan gives and reached by one: all plans of a short time are gone through. */
    private static void byTheWholePlan() {
        String[] texts = {"p/425/364;s0;m0;h0", "p/919/528;s0;m0;h0", "p/133/246;s0;m0;h0"};
        for (String text : texts) {
            BlankPardons x = Check.in(text);
            for (int a = 0; a < 3; a++) {
                for (int n = 0; n <= 3; n++) {
                    for (int papers = 0; papers <= 3; papers++) {
                        long upper = x.hope(a, n, papers, 0);
                        long lower = x.hope(a, n, papers, 1);
                        check.due("9: best of all plans", upper * (1 << n), bestPlan(x, a, n, papers) * lower);
                    }
                }
            }
        }
    }

    /**
     * The sum of the best plan's values over all rows of two deeds. A plan has an act for each history and deed
     * ahead of the last day; on the last day the best act is plain, as nothing comes later.
     */
    private static long bestPlan(BlankPardons x, int a, int n, int papers) {
        int choices = n == 0 ? 0 : 2 * ((1 << n - 1) - 1);
        int plans = 1;
        for (int c = 0; c < choices; c++) {
            plans *= 3;
        }
        long most = 0;
        int[] acts = new int[choices];
        for (int p = 0; p < plans; p++) {
            int rest = p;
            for (int c = 0; c < choices; c++) {
                acts[c] = rest % 3;
                rest /= 3;
            }
            most = Math.max(most, sumOfPlan(x, a, n, papers, acts));
        }
        return most;
    }

    private static long sumOfPlan(BlankPardons x, int a, int n, int papers, int[] acts) {
        long sum = 0;
        for (int row = 0; row < 1 << n; row++) {
            int left = papers;
            int node = 0;
            for (int day = 0; day < n; day++) {
                int d = row >> day & 1;
                int free = 10 * x.ofDeed(d, 0);
                int bare = free - x.fear(a, d);
                if (day == n - 1) {
                    sum += Math.max(Math.max(0, bare), left > 0 ? free : 0);
                } else if (acts[2 * node + d] == 2 && left > 0) {
                    left--;
                    sum += free;
                } else if (acts[2 * node + d] == 1) {
                    sum += bare;
                }
                node = 2 * node + 1 + d;
            }
        }
        return sum;
    }
}
