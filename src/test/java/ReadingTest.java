/** Promises 13 to 18: reading, back, risks, hurts, kinds, odds. */
public final class ReadingTest {
    private static final Check check = new Check();
    private static final long LOST = Long.MIN_VALUE;
    private static final int ALL = 1023;

    public static void main(String[] args) {
        numbers();
        back();
        sets();
        unlikeReadings();
        stateStays();
        unknown();
        odds();
        check.finish();
    }

    private static void numbers() {
        BlankPardons x = Check.in("p/425/319;s0;h0");
        for (int k = 0; k < 8; k++) {
            check.due("13: number", x.reading(k % 2, k / 4, k % 3 == 0), k);
            check.due("13: many", x.many(3), k + 1);
        }
        check.due("13: full", x.reading(0, 0, true), -4);
        check.due("13: unknown ahead of full", x.reading(2, 0, true), -1);
        check.due("13: unknown ahead of full", x.reading(0, 2, true), -1);
        check.due("13: unknown", x.reading(-1, 0, true), -1);
        check.due("13: unknown", x.reading(0, -1, true), -1);
        check.due("13: many", x.many(3), 8);
        check.due("14: back", x.back(3), 5);
        check.due("13: number after back", x.reading(0, 0, true), 5);
        check.due("13: without a kingdom", new BlankPardons().reading(0, 0, true), -1);
    }

    private static void back() {
        BlankPardons x = Check.in("p/425;s0");
        check.due("14: none", x.back(0), 0);
        check.due("14: more than there are", x.back(1), -2);
        x.reading(0, 0, true);
        x.reading(0, 0, false);
        check.due("14: below 0", x.back(-1), -2);
        check.due("14: more than there are", x.back(3), -2);
        check.due("14: beyond", x.back(Integer.MAX_VALUE), -2);
        check.due("14: refusals change nothing", x.many(3), 2);
        check.due("14: 0", x.back(0), 2);
        check.due("17: unlike", x.kinds(0), 0);
        check.due("14: the last", x.back(1), 1);
        check.due("17: the first is left", x.kinds(0), 3);
        check.due("14: all", x.back(1), 0);
        check.due("17: none is left", x.kinds(0), 7);
    }

    private static void sets() {
        // Worth 40. FEAR by risk r: 5r, 5r + 10, 10r + 20; by hurt h: 2h, 2h + 10, 4h + 20.
        BlankPardons x = Check.in("p/425;s0;m0;h0");
        check.due("15: no readings", x.risks(0), ALL);
        check.due("16: no readings", x.hurts(0), ALL);
        check.due("17: no readings", x.kinds(0), 7);
        x.reading(0, 0, true);
        check.due("15: s does (40 is not above)", x.risks(0), 0xFF);
        check.due("16: s does", x.hurts(0), ALL);
        x.back(1);
        x.reading(1, 0, true);
        check.due("15: m does", x.risks(0), 0x3F);
        check.due("16: m does", x.hurts(0), ALL);
        check.due("17: m does", x.kinds(1), 3);
        check.due("17: the others are not told of", x.kinds(0), 7);
        x.back(1);
        x.reading(2, 0, false);
        check.due("15: h does not", x.risks(0), ALL & ~3);
        check.due("16: h does not", x.hurts(0), ALL & ~0x1F);
        check.due("17: h does not", x.kinds(2), 4);
        x.reading(1, 0, true);
        check.due("15: both", x.risks(0), 0x3C);
        check.due("16: both", x.hurts(0), 0x3E0);
        x.back(2);
        x.reading(0, 0, false);
        check.due("15: s does not", x.risks(0), 0x300);
        check.due("16: no hurt will do", x.hurts(0), 0);
        check.due("17: s is h", x.kinds(0), 4);
        // What else is so depends on the other numbers, as they are by now.
        check.due("6: alter", x.alter(0, 0, 1), 4);
        check.due("15: worth 10", x.risks(0), ALL & ~3);
        check.due("17: worth 10", x.kinds(0), 7);
    }

    private static void unlikeReadings() {
        BlankPardons x = Check.in("p/425/900;s0;m0");
        x.reading(0, 0, true);
        x.reading(0, 1, false);
        // A reading of another DEED or SUBJECT that is not so leaves nothing.
        check.due("15: by deed 1", x.risks(0), 0);
        check.due("16: by deed 1", x.hurts(0), 0);
        check.due("15: a HURT of 0", x.risks(1), 0);
        check.due("16: a RISK of 0", x.hurts(1), 0);
        check.due("17: of another", x.kinds(1), 0);
        x.alter(1, 2, 9);
        check.due("15: none is enough", x.risks(1), 0);
        x.alter(1, 0, 8);
        check.due("15: 9 times 9", x.risks(1), 0x200);
        check.due("15: but not of deed 0", x.risks(0), 0);
    }

    private static void stateStays() {
        BlankPardons x = Check.in("p/425/931;s0;m2;h1");
        x.reading(2, 0, false);
        x.risks(0);
        x.hurts(1);
        x.kinds(1);
        check.due("15: risk stays", x.ofDeed(0, 1), 2);
        check.due("16: hurt stays", x.ofDeed(1, 2), 1);
        check.due("17: kind stays", x.ofSubject(1, 0), 1);
        check.due("17: kind stays", x.ofSubject(2, 0), 2);
    }

    private static void unknown() {
        BlankPardons x = Check.in("p/425/931;s0;m2;h1");
        BlankPardons none = new BlankPardons();
        for (int k : new int[] {-1, 3, Integer.MAX_VALUE, Integer.MIN_VALUE}) {
            check.due("15: unknown", x.risks(k), -1);
            check.due("16: unknown", x.hurts(k), -1);
            check.due("17: unknown", x.kinds(k), -1);
        }
        check.due("15: unknown", x.risks(2), -1);
        check.due("16: unknown", x.hurts(2), -1);
        check.due("15: no kingdom", none.risks(0), -1);
        check.due("16: no kingdom", none.hurts(0), -1);
        check.due("17: no kingdom", none.kinds(0), -1);
    }

    private static void share(BlankPardons x, int set, int n, long upper, long lower) {
        check.due("18: odds(" + set + ", " + n + ", 0)", x.odds(set, n, 0), upper);
        check.due("18: odds(" + set + ", " + n + ", 1)", x.odds(set, n, 1), lower);
    }

    private static void odds() {
        BlankPardons x = Check.in("p/100/110/190/151/129;s0");
        share(x, 0, 3, 1, 1);
        share(x, 31, 0, 1, 1);
        share(x, 1, 3, 1, 1);
        share(x, 2, 1, 9, 10);
        share(x, 2, 3, 729, 1000);
        share(x, 4, 3, 1, 1000);
        share(x, 8, 2, 1, 4);
        share(x, 16, 2, 16, 25);
        share(x, 6, 1, 9, 100);
        share(x, 24, 1, 2, 5);
        // 9 * 1 * 5 * 8 of 10000.
        share(x, 31, 1, 9, 250);
        share(x, 31, 3, 729, 15625000);
        for (int d = 0; d < 5; d++) {
            x.alter(d, 1, 9);
        }
        share(x, 31, 3, 1, 1000000000000000L);
        check.due("18: set", x.odds(32, 1, 0), LOST);
        check.due("18: set", x.odds(-1, 1, 0), LOST);
        check.due("18: n", x.odds(1, 4, 0), LOST);
        check.due("18: n", x.odds(1, -1, 0), LOST);
        check.due("18: which", x.odds(1, 1, 2), LOST);
        check.due("18: which", x.odds(1, 1, -1), LOST);
        check.due("18: state", new BlankPardons().odds(0, 0, 0), LOST);
        check.due("18: only DEEDS that are", Check.in("p/111;s0").odds(2, 1, 0), LOST);
    }
}
