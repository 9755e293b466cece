/** Boundary cases of promises 9 to 12 and of the document's section 3. */
public final class EdgeHopeTest {
    private static final Check check = new Check();
    private static final long LOST = BlankPardons.LOST;

    public static void main(String[] args) {
        noDays();
        mostDays();
        papersInPlace();
        morePapersThanDays();
        noPaper();
        letBe();
        bestForAllDays();
        leastTerms();
        hopeRefused();
        alikeToday();
        alikeLater();
        usesOfFive();
        usesRefused();
        priceAtLeast();
        priceOfNothing();
        highestPrice();
        buyersRefused();
        leastOfSeveral();
        lowestPrice();
        noBuyers();
        bestRefused();
        check.finish();
    }

    private static void hope(BlankPardons x, int a, int n, int papers, long upper, long lower) {
        String call = "hope(" + a + ", " + n + ", " + papers + ", ";
        check.due(call + "0)", x.hope(a, n, papers, 0), upper);
        check.due(call + "1)", x.hope(a, n, papers, 1), lower);
    }

    private static void noDays() {
        check.sentence("HOPE by n DAYS (0 .. 8) and so many PAPERS (0 .. 3; which 0 the upper, 1 the lower number).");
        BlankPardons x = Check.in("p/900/111/999;s3;m3;h3;s0");
        for (int a = 0; a < 4; a++) {
            for (int papers = 0; papers <= 3; papers++) {
                hope(x, a, 0, papers, 0, 1);
            }
        }
    }

    private static void mostDays() {
        // To a HOLY one deed 4 brings 90 by a PAPER alone, and each DAY it comes by 1 of 5.
        BlankPardons x = Check.in("p/000/000/000/000/999;h0");
        hope(x, 0, 8, 0, 0, 1);
        hope(x, 0, 8, 1, 18 * 325089, 78125);
        hope(x, 0, 8, 2, 18 * 519106, 78125);
        hope(x, 0, 8, 3, 18 * 119687, 15625);
        hope(x, 0, 7, 1, 18 * 61741, 15625);
        hope(x, 0, 1, 1, 18, 1);
        // All are alike: each of 8 DAYS brings 90, the most that there is.
        BlankPardons y = Check.in("p/900/900/900/900/900;s0");
        hope(y, 0, 8, 0, 720, 1);
        hope(y, 0, 8, 3, 720, 1);
    }

    private static void papersInPlace() {
        check.sentence("(in place of those that they have)");
        BlankPardons x = Check.in("p/999;h0");
        for (int has = 0; has <= 3; has++) {
            x.grant(0, has);
            for (int papers = 0; papers <= 3; papers++) {
                hope(x, 0, 8, papers, 90 * papers, 1);
            }
            check.due("uses", x.uses(0, 1, 1), 1);
            check.due("buyers", x.buyers(90, 8), 1);
            check.due("they stay", x.ofSubject(0, 1), has);
        }
    }

    private static void morePapersThanDays() {
        BlankPardons x = Check.in("p/999;m0");
        for (int n = 0; n <= 4; n++) {
            for (int papers = 0; papers <= 3; papers++) {
                hope(x, 0, n, papers, 90 * Math.min(n, papers), 1);
            }
        }
    }

    private static void noPaper() {
        check.sentence("or pardoned, as long as there is a PAPER");
        BlankPardons x = Check.in("p/999/999;s0;m0;h0");
        hope(x, 0, 8, 0, 72, 1);
        hope(x, 1, 8, 0, 0, 1);
        hope(x, 2, 8, 0, 0, 1);
        // One PAPER is gone with the first, as there is none for the second.
        hope(x, 1, 2, 1, 90, 1);
        hope(x, 0, 2, 1, 99, 1);
    }

    private static void letBe() {
        check.sentence("they let it be, do it unpardoned, or pardoned");
        // VALUES unpardoned of -2, 0, 1 and 2: what is below 0 takes nothing away.
        hope(Check.in("p/126;s0"), 0, 8, 0, 0, 1);
        hope(Check.in("p/125;s0"), 0, 8, 0, 0, 1);
        hope(Check.in("p/133;s0"), 0, 8, 0, 8, 1);
        hope(Check.in("p/433;h0"), 0, 8, 0, 16, 1);
        hope(Check.in("p/126/133;s0"), 0, 1, 0, 1, 2);
        hope(Check.in("p/099;h0"), 0, 8, 3, 0, 1);
    }

    private static void bestForAllDays() {
        check.sentence("whichever is best for all DAYS");
        // HOLY: deed 0 brings 10 by a PAPER, deed 1 brings 90. The one PAPER is kept from deed 0 but on the last DAY.
        BlankPardons x = Check.in("p/199/999;h0");
        hope(x, 0, 1, 1, 50, 1);
        hope(x, 0, 2, 1, 70, 1);
        hope(x, 0, 3, 1, 80, 1);
        hope(x, 0, 8, 1, 1435, 16);
    }

    private static void leastTerms() {
        check.sentence("Shares are told as upper and lower number (above 0) in least terms.");
        // Each DAY brings 1 by one of so many DEEDS.
        hope(Check.in("p/133;s0"), 0, 1, 0, 1, 1);
        hope(Check.in("p/133/000;s0"), 0, 1, 0, 1, 2);
        hope(Check.in("p/133/000;s0"), 0, 2, 0, 1, 1);
        hope(Check.in("p/133/000/000;s0"), 0, 8, 0, 8, 3);
        hope(Check.in("p/133/000/000/000;s0"), 0, 2, 0, 1, 2);
        hope(Check.in("p/133/000/000/000;s0"), 0, 8, 0, 2, 1);
        hope(Check.in("p/133/000/000/000/000;s0"), 0, 8, 0, 8, 5);
        hope(Check.in("p/000/000/000/000/000;s0"), 0, 8, 3, 0, 1);
    }

    private static void hopeRefused() {
        check.sentence("LOST: UNKNOWN; OUTSIDE.");
        BlankPardons x = Check.in("p/999;s0;m0;h0;s0");
        check.due("the last of all", x.hope(3, 8, 3, 1), 1);
        for (int bad : Check.beyond(0, 3)) {
            check.due("subject " + bad, x.hope(bad, 0, 0, 0), LOST);
            check.due("papers " + bad, x.hope(0, 0, bad, 0), LOST);
        }
        for (int bad : Check.beyond(0, 8)) {
            check.due("days " + bad, x.hope(0, bad, 0, 0), LOST);
        }
        for (int bad : Check.beyond(0, 1)) {
            check.due("which " + bad, x.hope(0, 0, 0, bad), LOST);
        }
        check.due("the second of one", Check.in("p/999;s0").hope(1, 0, 0, 0), LOST);
        check.due("no kingdom", new BlankPardons().hope(0, 0, 0, 0), LOST);
    }

    private static void uses(String text, int n, int papers, int want) {
        check.due("uses(0, " + n + ", " + papers + ") in " + text, Check.in(text).uses(0, n, papers), want);
    }

    private static void alikeToday() {
        check.sentence("DEEDS that are better done pardoned than let be or done unpardoned (not if both are alike)");
        // Brings nothing: alike to letting it be.
        uses("p/099;h0", 1, 1, 0);
        // Is never found out: alike to doing it unpardoned.
        uses("p/909;s0", 1, 3, 0);
        uses("p/990;s0", 8, 3, 0);
        uses("p/911;s0", 1, 1, 1);
        uses("p/100;m0", 1, 1, 1);
        uses("p/125;s0", 1, 1, 1);
        uses("p/126;s0", 1, 1, 1);
    }

    private static void alikeLater() {
        check.sentence("if they come on the first of n DAYS with so many PAPERS");
        // A PAPER for each DAY is used at once, one less can wait as well.
        for (int n = 1; n <= 8; n++) {
            for (int papers = 1; papers <= 3; papers++) {
                uses("p/999;h0", n, papers, papers >= n ? 1 : 0);
            }
        }
        // What a PAPER gains, against what it gains tomorrow on the mean: 9 and 10 against 19/2; 8, 9, 10 against 9.
        uses("p/919/925;s0", 2, 1, 2);
        uses("p/918/919/925;s0", 2, 1, 4);
        uses("p/918/919/925;s0", 1, 1, 7);
        uses("p/918/919/925;s0", 2, 2, 7);
    }

    private static void usesOfFive() {
        check.sentence("USES by n DAYS (1 .. 8) and so many PAPERS (1 .. 3), as a set. UNKNOWN; OUTSIDE.");
        uses("p/999/999/999/999/999;h0", 1, 1, 31);
        uses("p/999/999/999/999/999;h0", 3, 3, 31);
        uses("p/999/999/999/999/999;h0", 4, 3, 0);
        uses("p/000/000/000/000/999;h0", 8, 1, 16);
        uses("p/999/000/000/000/000;h0", 8, 3, 1);
    }

    private static void usesRefused() {
        BlankPardons x = Check.in("p/999;s0;m0;h0;s0");
        check.due("the least", x.uses(0, 1, 1), 1);
        check.due("the most", x.uses(3, 8, 3), 0);
        for (int bad : Check.beyond(0, 3)) {
            check.due("subject " + bad, x.uses(bad, 1, 1), -1);
            check.due("subject " + bad + ", unknown ahead of outside", x.uses(bad, 0, 0), -1);
        }
        for (int bad : Check.beyond(1, 8)) {
            check.due("days " + bad, x.uses(0, bad, 1), -2);
        }
        for (int bad : Check.beyond(1, 3)) {
            check.due("papers " + bad, x.uses(0, 1, bad), -2);
        }
        check.due("no kingdom", new BlankPardons().uses(0, 1, 1), -1);
    }

    private static void buyers(String text, int price, int n, int want) {
        check.due("buyers(" + price + ", " + n + ") in " + text, Check.in(text).buyers(price, n), want);
    }

    private static void priceAtLeast() {
        check.sentence("SUBJECTS whose HOPE by one PAPER is more than that by none by the PRICE at least");
        buyers("p/919;s0", 9, 1, 1);
        buyers("p/919;s0", 10, 1, 0);
        // 19/2, and 9 as the half of 18.
        buyers("p/919/925;s0", 9, 1, 1);
        buyers("p/919/925;s0", 10, 1, 0);
        buyers("p/918/925;s0", 9, 1, 1);
        buyers("p/918/925;s0", 10, 1, 0);
        // A gain of 38 by one of five DEEDS: 7.6 by one DAY, 31.6 by 8.
        buyers("p/919/000/000/000/000;h0", 7, 1, 1);
        buyers("p/919/000/000/000/000;h0", 8, 1, 0);
        buyers("p/919/000/000/000/000;h0", 31, 8, 1);
        buyers("p/919/000/000/000/000;h0", 32, 8, 0);
        // Gains of 1, 11, 22 and 1.
        String text = "p/911;s0;m1;h2;s3";
        int[] prices = {1, 2, 11, 12, 22, 23};
        int[] want = {15, 6, 6, 4, 4, 0};
        for (int k = 0; k < prices.length; k++) {
            buyers(text, prices[k], 1, want[k]);
            buyers(text, prices[k], 8, want[k]);
        }
    }

    private static void priceOfNothing() {
        check.sentence("BUYERS at a PRICE (0 .. 99) by n DAYS (0 .. 8), as a set.");
        buyers("p/900;s0;s0;s0;s0", 0, 8, 15);
        buyers("p/000;h0;h0;h0;h0", 0, 0, 15);
        buyers("p/999;h0", 0, 0, 1);
        buyers("p/999;h0", 1, 0, 0);
        buyers("p/900;s0;s0;s0;m0", 1, 8, 8);
    }

    private static void highestPrice() {
        for (int n = 1; n <= 8; n++) {
            buyers("p/999/999/999/999/999;h0;m0;s0;h0", 90, n, 11);
            buyers("p/999/999/999/999/999;h0;m0;s0;h0", 81, n, 15);
            buyers("p/999/999/999/999/999;h0;m0;s0;h0", 91, n, 0);
            buyers("p/999/999/999/999/999;h0;m0;s0;h0", 99, n, 0);
        }
    }

    private static void buyersRefused() {
        check.sentence("OUTSIDE; STATE: there is no KINGDOM.");
        BlankPardons x = Check.in("p/999;h0");
        BlankPardons none = new BlankPardons();
        for (int bad : Check.beyond(0, 99)) {
            check.due("price " + bad, x.buyers(bad, 0), -2);
            check.due("price " + bad + ", outside ahead of state", none.buyers(bad, 0), -2);
        }
        for (int bad : Check.beyond(0, 8)) {
            check.due("days " + bad, x.buyers(0, bad), -2);
            check.due("days " + bad + ", outside ahead of state", none.buyers(0, bad), -2);
        }
        check.due("no kingdom", none.buyers(0, 0), -3);
        check.due("no kingdom", none.buyers(99, 8), -3);
    }

    private static void best(String text, int n, int want) {
        check.due("best(" + n + ") in " + text, Check.in(text).best(n), want);
    }

    private static void leastOfSeveral() {
        check.sentence("of several the least");
        // Gains of 10 and 20: 10 twice is as much as 20 once.
        best("p/200;m0;h0", 1, 10);
        best("p/200;h0;m0", 8, 10);
        best("p/200;s0;m0;h0", 1, 10);
        // Gains of 1, 11, 22: 11 twice is as much as 22 once.
        best("p/911;s0;m0;h0", 1, 11);
        // Gains of 1, 11, 22, 22: 22 twice is more than 11 thrice and 1 four times.
        best("p/911;s0;m0;h0;h0", 1, 22);
        // Gains of 1, 1, 1 and 22.
        best("p/911;s0;s0;s0;h0", 1, 22);
        // Gains of 81, 90, 90 and 90: 81 four times.
        best("p/999;s0;m0;h0;m0", 8, 81);
    }

    private static void lowestPrice() {
        check.sentence("the PRICE 1 .. 99 that brings the most (times how many BUYERS there are)");
        best("p/911;s0", 1, 1);
        best("p/911;s0;s0;s0;s0", 8, 1);
        // 3/2, 7/2: what is behind the whole number brings nothing.
        best("p/911/912;s0", 1, 1);
        best("p/913/914;s0", 1, 3);
        best("p/999;h0", 1, 90);
        best("p/999/999/999/999/999;h0;h0;h0;h0", 8, 90);
    }

    private static void noBuyers() {
        check.sentence("NONE: there are no BUYERS at 1.");
        best("p/900;s0;s0;s0;s0", 8, -9);
        best("p/000;h0;h0;h0;h0", 8, -9);
        best("p/911/000;s0", 1, -9);
        best("p/911/000;s0", 8, -9);
        best("p/911/911;s0", 1, 1);
        best("p/999/999/999/999/999;h3;h3;h3;h3", 0, -9);
    }

    private static void bestRefused() {
        check.sentence("BEST by n DAYS (0 .. 8); NONE. OUTSIDE; STATE: there is no KINGDOM.");
        BlankPardons x = Check.in("p/999;h0");
        BlankPardons none = new BlankPardons();
        for (int bad : Check.beyond(0, 8)) {
            check.due("days " + bad, x.best(bad), -2);
            check.due("days " + bad + ", outside ahead of state", none.best(bad), -2);
        }
        check.due("no kingdom", none.best(0), -3);
        check.due("no kingdom", none.best(8), -3);
    }
}
