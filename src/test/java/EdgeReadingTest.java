/** Boundary cases of promises 13 to 18 and of the document's section 4. */
public final class EdgeReadingTest {
    private static final Check check = new Check();
    private static final long LOST = BlankPardons.LOST;
    private static final int ALL = 1023;

    public static void main(String[] args) {
        eightAtMost();
        readingRefused();
        back();
        theLastAreTakenBack();
        ofTheLastOfBoth();
        noReadings();
        setsOfRisks();
        setsOfHurts();
        setsOfKinds();
        valueOfNothing();
        inPlaceOfOneAlone();
        notSoElsewhere();
        unknown();
        oddsOfNothing();
        oddsOfAll();
        oddsInLeastTerms();
        oddsRefused();
        check.finish();
    }

    private static void eightAtMost() {
        check.sentence("READINGS, 8 at most, numbered by how many there are");
        BlankPardons x = Check.in("p/425/111;s0;m0");
        for (int k = 0; k < 8; k++) {
            check.due("reading " + k, x.reading(k % 2, k / 4, true), k);
            check.due("how many", x.many(3), k + 1);
        }
        for (int k = 0; k < 3; k++) {
            check.due("the ninth", x.reading(0, 0, false), -4);
            check.due("how many", x.many(3), 8);
        }
        check.due("none taken back", x.back(0), 8);
        check.due("full as before", x.reading(0, 0, false), -4);
        check.due("one taken back", x.back(1), 7);
        check.due("one more", x.reading(0, 0, true), 7);
        check.due("full again", x.reading(0, 0, true), -4);
        check.due("all taken back", x.back(8), 0);
        check.due("the first again", x.reading(0, 0, true), 0);
    }

    private static void readingRefused() {
        check.sentence("A READING: its number. UNKNOWN: SUBJECT, DEED; FULL.");
        BlankPardons x = Check.in("p/111/111/111/111/111;s0;m0;h0;s0");
        check.due("the last of both", x.reading(3, 4, true), 0);
        for (int full = 0; full < 2; full++) {
            for (int bad : Check.beyond(0, 3)) {
                check.due("subject " + bad, x.reading(bad, 0, true), -1);
            }
            for (int bad : Check.beyond(0, 4)) {
                check.due("deed " + bad, x.reading(0, bad, false), -1);
            }
            for (int k = 0; k < 8; k++) {
                x.reading(0, 0, true);
            }
        }
        check.due("unknown ones are no readings", x.many(3), 8);
        check.due("no kingdom", new BlankPardons().reading(0, 0, true), -1);
    }

    private static void back() {
        check.sentence("The last k READINGS (0 .. as many as there are) are taken back: how many are left. OUTSIDE.");
        for (int there = 0; there <= 8; there++) {
            for (int k = 0; k <= there; k++) {
                BlankPardons x = with(there);
                check.due("back(" + k + ") of " + there, x.back(k), there - k);
                check.due("how many", x.many(3), there - k);
                check.due("one more than are left", x.back(there - k + 1), -2);
            }
            BlankPardons x = with(there);
            for (int bad : Check.beyond(0, there)) {
                check.due("back(" + bad + ") of " + there, x.back(bad), -2);
                check.due("how many", x.many(3), there);
            }
        }
        check.due("none without a kingdom", new BlankPardons().back(0), 0);
        check.due("one without a kingdom", new BlankPardons().back(1), -2);
        check.due("one below none", new BlankPardons().back(-1), -2);
    }

    private static BlankPardons with(int readings) {
        BlankPardons x = Check.in("p/111;s0");
        for (int k = 0; k < readings; k++) {
            x.reading(0, 0, true);
        }
        return x;
    }

    private static void theLastAreTakenBack() {
        // Only the last of 8 is unlike the others.
        BlankPardons x = Check.in("p/111;s0");
        for (int k = 0; k < 8; k++) {
            x.reading(0, 0, k < 7);
        }
        check.due("with the last", x.risks(0), 0);
        x.back(1);
        check.due("without the last", x.risks(0), ALL);
        // Only the first is.
        Check.found(x, "p/111;s0");
        for (int k = 0; k < 8; k++) {
            x.reading(0, 0, k > 0);
        }
        x.back(6);
        check.due("with the first", x.risks(0), 0);
        x.back(1);
        check.due("the first alone", x.risks(0), 0);
        x.back(1);
        check.due("none", x.risks(0), ALL);
    }

    private static void ofTheLastOfBoth() {
        // To SUBJECT 3, a HOLY one, DEED 4 is worth 42; to a SUBJECT or MEEK one, more.
        BlankPardons x = Check.in("p/000/000/000/000/819;s0;m0;s0;h0");
        x.reading(3, 4, false);
        check.due("risks of the last", x.risks(4), ALL & ~0xF);
        check.due("hurts of the last", x.hurts(4), 0);
        check.due("risks of the first", x.risks(0), 0);
        x.back(1);
        x.alter(4, 1, 9);
        x.reading(3, 4, false);
        // By a RISK of 9 their FEAR is 81, 91 and 182.
        check.due("kinds of the last", x.kinds(3), 7);
        x.alter(4, 0, 9);
        check.due("kinds of the last", x.kinds(3), 6);
        check.due("kinds of the first", x.kinds(0), 7);
        x.reading(2, 4, true);
        check.due("kinds of the one ahead", x.kinds(2), 1);
        check.due("kinds of the last", x.kinds(3), 6);
    }

    private static void noReadings() {
        check.sentence("RISKS of a DEED: 0 .. 9; HURTS of a DEED: 0 .. 9; KINDS of a SUBJECT: 0 .. 2; as sets");
        BlankPardons x = Check.in("p/000/999/090/009/900;s0;m0;h0;s0");
        for (int d = 0; d < 5; d++) {
            check.due("risks " + d, x.risks(d), ALL);
            check.due("hurts " + d, x.hurts(d), ALL);
        }
        for (int a = 0; a < 4; a++) {
            check.due("kinds " + a, x.kinds(a), 7);
        }
    }

    /** The sets by one READING of subject 0 and deed 0. */
    private static void sets(String text, boolean does, int risks, int hurts, int kinds) {
        BlankPardons x = Check.in(text);
        x.reading(0, 0, does);
        String by = " in " + text + ", " + does;
        check.due("risks" + by, x.risks(0), risks);
        check.due("hurts" + by, x.hurts(0), hurts);
        check.due("kinds" + by, x.kinds(0), kinds);
    }

    private static void setsOfRisks() {
        // By a HURT of 9: the last RISK alone, all but the last, the first alone, all but the first.
        sets("p/819;s0", false, 0x200, 0, 0);
        sets("p/819;s0", true, 0x1FF, ALL, 7);
        sets("p/309;h0", true, 1, ALL, 7);
        sets("p/309;h0", false, ALL - 1, 0, 0);
    }

    private static void setsOfHurts() {
        sets("p/891;s0", false, 0, 0x200, 0);
        sets("p/891;s0", true, ALL, 0x1FF, 7);
        sets("p/390;h0", true, ALL, 1, 7);
        sets("p/390;h0", false, 0, ALL - 1, 0);
    }

    private static void setsOfKinds() {
        // VALUES of a DEED that is never found out: 10, 0, -10; 20, 10, 0; 30, 20, 10; 0, -10, -20.
        sets("p/100;s0", true, ALL, ALL, 1);
        sets("p/100;s0", false, 0, 0, 6);
        sets("p/200;s0", true, ALL, ALL, 3);
        sets("p/200;s0", false, 0, 0, 4);
        sets("p/300;s0", true, ALL, ALL, 7);
        sets("p/300;s0", false, 0, 0, 0);
        sets("p/000;s0", true, 0, 0, 0);
        sets("p/000;s0", false, ALL, ALL, 7);
    }

    private static void valueOfNothing() {
        check.sentence("a SUBJECT DOES a DEED unpardoned, or does not");
        // By a WORTH of 1 a FEAR of 10 is enough: 5 times 2, 2 times 5.
        sets("p/125;s0", false, ALL & ~3, ALL & ~0x1F, 7);
        sets("p/125;s0", true, 3, 0x1F, 0);
        // By a WORTH of 4 a HOLY one fears 40 by 5 times 2.
        sets("p/425;h0", false, ALL & ~3, ALL & ~0x1F, 4);
        sets("p/425;h0", true, 3, 0x1F, 3);
    }

    private static void inPlaceOfOneAlone() {
        check.sentence("in place of what it is alone, by which all READINGS are so");
        // A READING that is not so as the KINGDOM is: RISK alone mends it, HURT alone does not.
        BlankPardons x = Check.in("p/414;s0");
        x.reading(0, 0, false);
        check.due("hurts", x.hurts(0), 0);
        check.due("risks", x.risks(0), 0);
        x.alter(0, 2, 5);
        check.due("risks by another hurt", x.risks(0), 0x300);
        check.due("hurts by a risk of 1", x.hurts(0), 0);
        x.alter(0, 1, 8);
        check.due("hurts by a risk of 8", x.hurts(0), ALL & ~0x1F);
        check.due("what they are stays: risk", x.ofDeed(0, 1), 8);
        check.due("what they are stays: hurt", x.ofDeed(0, 2), 5);
        check.due("what they are stays: kind", x.ofSubject(0, 0), 0);
    }

    private static void notSoElsewhere() {
        // One of eight READINGS is of another DEED and SUBJECT, and is not so: nothing mends it from here.
        BlankPardons x = Check.in("p/300/300;s0;s0");
        for (int k = 0; k < 7; k++) {
            x.reading(0, 0, true);
        }
        check.due("all are so", x.risks(0), ALL);
        x.reading(1, 1, false);
        check.due("risks", x.risks(0), 0);
        check.due("hurts", x.hurts(0), 0);
        check.due("kinds", x.kinds(0), 0);
        x.alter(1, 0, 0);
        check.due("mended there", x.risks(0), ALL);
        check.due("mended there", x.kinds(0), 7);
    }

    private static void unknown() {
        BlankPardons x = Check.in("p/111/111/111/111/111;s0;m0;h0;s0");
        for (int bad : Check.beyond(0, 4)) {
            check.sentence("RISKS, as a set. UNKNOWN.");
            check.due("risks(" + bad + ")", x.risks(bad), -1);
            check.sentence("HURTS, as a set. UNKNOWN.");
            check.due("hurts(" + bad + ")", x.hurts(bad), -1);
        }
        check.sentence("KINDS, as a set. UNKNOWN.");
        for (int bad : Check.beyond(0, 3)) {
            check.due("kinds(" + bad + ")", x.kinds(bad), -1);
        }
        BlankPardons one = Check.in("p/111;s0");
        check.due("the second of one", one.risks(1), -1);
        check.due("the second of one", one.hurts(1), -1);
        check.due("the second of one", one.kinds(1), -1);
        BlankPardons none = new BlankPardons();
        check.due("no kingdom", none.risks(0), -1);
        check.due("no kingdom", none.hurts(0), -1);
        check.due("no kingdom", none.kinds(0), -1);
    }

    private static void odds(BlankPardons x, int set, int n, long upper, long lower) {
        check.due("odds(" + set + ", " + n + ", 0)", x.odds(set, n, 0), upper);
        check.due("odds(" + set + ", " + n + ", 1)", x.odds(set, n, 1), lower);
    }

    private static void oddsOfNothing() {
        check.sentence("ODDS of a set of DEEDS and n (0 .. 3; which 0 the upper, 1 the lower number).");
        BlankPardons x = Check.in("p/090/090/090/090/000;s0");
        for (int n = 0; n <= 3; n++) {
            odds(x, 0, n, 1, 1);
            odds(x, 16, n, 1, 1);
        }
        odds(x, 31, 0, 1, 1);
    }

    private static void oddsOfAll() {
        check.sentence("if each of them is done unpardoned n times, and each time found out by RISK of 10, each by itself:"
            + " the share by which none of them ever is");
        BlankPardons x = Check.in("p/090/090/090/090/090;s0");
        long lower = 1;
        for (int n = 0; n <= 3; n++) {
            odds(x, 31, n, 1, lower);
            lower *= 100000;
        }
        odds(x, 16, 3, 1, 1000);
        BlankPardons y = Check.in("p/010/010/010/010/010;s0");
        odds(y, 31, 3, 205891132094649L, 1000000000000000L);
        odds(y, 16, 1, 9, 10);
        odds(y, 17, 1, 81, 100);
    }

    private static void oddsInLeastTerms() {
        check.sentence("Shares are told as upper and lower number (above 0) in least terms.");
        BlankPardons x = Check.in("p/050/020/040/060/080;s0");
        odds(x, 1, 3, 1, 8);
        odds(x, 2, 3, 64, 125);
        odds(x, 4, 1, 3, 5);
        odds(x, 8, 2, 4, 25);
        odds(x, 16, 1, 1, 5);
        // 5 8 6 4 2 of 100000.
        odds(x, 31, 1, 12, 625);
    }

    private static void oddsRefused() {
        check.sentence("LOST: STATE: there is no KINGDOM; OUTSIDE: set, n, which.");
        for (int deeds = 1; deeds <= 5; deeds++) {
            BlankPardons x = Check.in("p" + "/000".repeat(deeds) + ";s0");
            odds(x, (1 << deeds) - 1, 3, 1, 1);
            for (int bad : Check.beyond(0, (1 << deeds) - 1)) {
                check.due("set " + bad, x.odds(bad, 0, 0), LOST);
            }
        }
        BlankPardons x = Check.in("p/000;s0");
        for (int bad : Check.beyond(0, 3)) {
            check.due("n " + bad, x.odds(0, bad, 0), LOST);
        }
        for (int bad : Check.beyond(0, 1)) {
            check.due("which " + bad, x.odds(0, 0, bad), LOST);
        }
        check.due("no kingdom", new BlankPardons().odds(0, 0, 0), LOST);
        check.due("no kingdom", new BlankPardons().odds(0, 0, 1), LOST);
    }
}
