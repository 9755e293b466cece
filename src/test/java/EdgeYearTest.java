/** Boundary cases of promise 8 and of the document's section 2. */
public final class EdgeYearTest {
    private static final Check check = new Check();
    private static final int MAX = Integer.MAX_VALUE, MIN = Integer.MIN_VALUE;
    private static final String LINE = "UNKNOWN: SHEET; OUTSIDE: lane, n (0 .. 20), what (0 .. 2, 10 .. 13); STATE: there is no"
        + " KINGDOM; CAST; NULL; INDEX; UNKNOWN, triple by triple: a cell is no SUBJECT, no DEED, no ACT.";

    public static void main(String[] args) {
        noTriples();
        howManyTriples();
        howManyCells();
        lastPaper();
        papersOfEach();
        valueOfNothing();
        values();
        firstOfSeveral();
        firstAndLast();
        whatIsAsked();
        noSuchSubject();
        lanes();
        noKingdom();
        nothing();
        places();
        unknownCells();
        cellsThatAreNotTaken();
        order();
        check.finish();
    }

    private static void year(BlankPardons x, int i, int n, int what, int want) {
        check.due("year(0, 2, " + i + ", " + n + ", " + what + ")", x.year(0, 2, i, n, what), want);
        check.due("fault", x.fault(), want <= -11 && want >= -14 ? -10 - want : 0);
    }

    private static void noTriples() {
        check.sentence("A YEAR of n triples, that are cells of a SHEET from i on (3 n)");
        BlankPardons x = Check.in("p/111;s0;m1;h2;s3");
        for (int length = 0; length < 2; length++) {
            x.sheet(0, 2, length);
            for (int i = 0; i <= length; i++) {
                year(x, i, 0, 0, 0);
                year(x, i, 0, 1, -9);
                year(x, i, 0, 2, 0);
                for (int a = 0; a < 4; a++) {
                    year(x, i, 0, 10 + a, a);
                }
            }
        }
    }

    private static void howManyTriples() {
        check.sentence("n (0 .. 20)");
        BlankPardons x = Check.in("p/900;s3");
        x.sheet(0, 2, 60);
        for (int t = 0; t < 20; t++) {
            x.put(0, 3 * t + 2, 1);
        }
        year(x, 0, 20, 0, 1800);
        year(x, 3, 19, 0, 1710);
        year(x, 57, 1, 0, 90);
        for (int n : Check.beyond(0, 20)) {
            year(x, 0, n, 0, -2);
        }
    }

    private static void howManyCells() {
        check.sentence("A YEAR of n triples, that are cells of a SHEET from i on (3 n)");
        BlankPardons x = Check.in("p/900;s3");
        for (int n = 1; n < 4; n++) {
            x.sheet(0, 2, 3 * n - 1);
            year(x, 0, n, 0, -13);
            x.sheet(0, 2, 3 * n);
            year(x, 0, n, 0, 0);
            year(x, 1, n, 0, -13);
            x.sheet(0, 2, 3 * n + 1);
            year(x, 1, n, 0, 0);
        }
    }

    private static void lastPaper() {
        check.sentence("the first triple by which a PAPER would be gone that is not there");
        BlankPardons x = Check.in("p/199;s0");
        Check.row(x, 0, 2, 0, 0, 2, 0, 0, 2, 0, 0, 2, 0, 0, 2);
        for (int papers = 0; papers <= 3; papers++) {
            x.grant(0, papers);
            for (int n = 0; n <= 4; n++) {
                boolean right = n <= papers;
                year(x, 0, n, 0, right ? 10 * n : -100000 - papers);
                year(x, 0, n, 1, right ? -9 : papers);
                year(x, 0, n, 2, right ? n : -100000 - papers);
                year(x, 0, n, 10, right ? papers - n : -100000 - papers);
            }
            check.due("the SUBJECT's own PAPERS stay", x.ofSubject(0, 1), papers);
        }
        // A DEED that brings nothing takes its PAPER all the same.
        x.alter(0, 0, 0);
        year(x, 0, 3, 0, 0);
        year(x, 0, 3, 10, 0);
        year(x, 0, 4, 1, 3);
    }

    private static void papersOfEach() {
        check.sentence("it is done pardoned: one of the SUBJECT's PAPERS is gone");
        BlankPardons x = Check.in("p/100;s1;m1;h1;s1");
        Check.row(x, 0, 2, 0, 0, 2, 1, 0, 2, 2, 0, 2, 3, 0, 2, 1, 0, 2);
        year(x, 0, 4, 1, -9);
        year(x, 0, 5, 1, 4);
        x.grant(0, 3);
        year(x, 0, 5, 1, 4);
        x.grant(1, 2);
        year(x, 0, 5, 1, -9);
        year(x, 0, 5, 10, 2);
        year(x, 0, 5, 11, 0);
        year(x, 0, 5, 13, 0);
        // Done unpardoned or let be, a DEED takes none.
        Check.row(x, 0, 2, 0, 0, 1, 3, 0, 0);
        year(x, 0, 2, 10, 3);
        year(x, 0, 2, 13, 1);
        year(x, 0, 2, 2, 0);
    }

    private static void valueOfNothing() {
        check.sentence("or a DEED be done unpardoned whose VALUE is not above 0");
        value("p/125;s3", 0);
        value("p/133;s0", 1);
        value("p/126;s3", -2);
        value("p/100;m3", 0);
        value("p/233;m0", 1);
        value("p/200;h3", 0);
        value("p/433;h0", 2);
        value("p/000;s3", 0);
        value("p/099;h3", -182);
        value("p/900;s0", 90);
    }

    private static void value(String text, int value) {
        BlankPardons x = Check.in(text);
        Check.row(x, 0, 2, 0, 0, 1, 0, 0, 0);
        year(x, 0, 1, 0, value > 0 ? value : -100000);
        year(x, 0, 1, 1, value > 0 ? -9 : 0);
        // Let be, it is never wrong.
        year(x, 3, 1, 0, 0);
        year(x, 3, 1, 1, -9);
    }

    private static void values() {
        check.sentence("VALUE of a DEED unpardoned: ten times its WORTH, less FEAR; pardoned: ten times its WORTH.");
        // By whatever FEAR: 0, 81 or 182.
        for (String text : new String[] {"p/000/900;s3", "p/099/999;s3", "p/099/999;h3"}) {
            BlankPardons x = Check.in(text);
            Check.row(x, 0, 2, 0, 0, 2, 0, 1, 2);
            year(x, 0, 1, 0, 0);
            year(x, 3, 1, 0, 90);
            year(x, 0, 2, 0, 90);
        }
        check.sentence("VALUES of all that is done, together (what 0), its FIRST WRONG (1; NONE), how many DEEDS are done"
            + " pardoned (2)");
        // The most that a YEAR can tell: three for each of four, the rest unpardoned.
        BlankPardons x = Check.in("p/900;s3;m3;h3;s3");
        x.sheet(0, 2, 60);
        for (int t = 0; t < 20; t++) {
            x.put(0, 3 * t, t % 4);
            x.put(0, 3 * t + 2, t < 12 ? 2 : 1);
        }
        year(x, 0, 20, 0, 20 * 90 - 2 * 10 - 2 * 20);
        year(x, 0, 20, 1, -9);
        year(x, 0, 20, 2, 12);
        for (int a = 0; a < 4; a++) {
            year(x, 0, 20, 10 + a, 0);
        }
    }

    private static void firstOfSeveral() {
        check.sentence("FIRST WRONG: the first triple");
        BlankPardons x = Check.in("p/900/099;s1");
        Check.row(x, 0, 2, 0, 0, 2, 0, 1, 1, 0, 0, 2, 0, 1, 1);
        year(x, 0, 1, 1, -9);
        year(x, 0, 4, 1, 1);
        year(x, 3, 3, 1, 0);
        // A PAPER is left for the second by now, but not for the third.
        Check.row(x, 0, 2, 0, 0, 0, 0, 0, 2, 0, 0, 2, 0, 1, 1);
        year(x, 0, 4, 1, 2);
        year(x, 0, 4, 0, -100002);
    }

    private static void firstAndLast() {
        check.sentence("of one with a FIRST WRONG: -100000 less that (but what 1)");
        BlankPardons x = Check.in("p/900/099;s0");
        x.sheet(0, 2, 60);
        x.put(0, 59, 2);
        for (int what : new int[] {0, 2, 10, 11, 12, 13}) {
            year(x, 0, 20, what, -100019);
            year(x, 57, 1, what, -100000);
        }
        year(x, 0, 20, 1, 19);
        year(x, 57, 1, 1, 0);
        year(x, 0, 19, 1, -9);
    }

    private static void whatIsAsked() {
        check.sentence("what (0 .. 2, 10 .. 13)");
        BlankPardons x = Check.in("p/900;s0;m1;h2;s3");
        Check.row(x, 0, 2, 3, 0, 2);
        int[] want = {90, -9, 1, -2, -2, -2, -2, -2, -2, -2, 0, 1, 2, 2, -2, -2};
        for (int what = 0; what < want.length; what++) {
            year(x, 0, 1, what, want[what]);
        }
        for (int what : Check.beyond(0, 13)) {
            year(x, 0, 1, what, -2);
        }
        for (int what : Check.beyond(10, 13)) {
            year(x, 0, 1, what, -2);
        }
    }

    private static void noSuchSubject() {
        check.sentence("PAPERS that are left to SUBJECT a (10 and a; NONE: there is no such SUBJECT)");
        String[] texts = {"p/900;s3", "p/900;s3;m2", "p/900;s3;m2;h1", "p/900;s3;m2;h1;s0"};
        for (int subjects = 1; subjects <= 4; subjects++) {
            // More of them were there before, with PAPERS.
            BlankPardons x = Check.in("p/900;s3;s3;s3;s3");
            Check.found(x, texts[subjects - 1]);
            x.sheet(0, 2, 0);
            for (int a = 0; a < 4; a++) {
                year(x, 0, 0, 10 + a, a < subjects ? 3 - a : -9);
            }
        }
    }

    private static void lanes() {
        check.sentence(LINE);
        for (int lane = 0; lane < 3; lane++) {
            BlankPardons x = Check.in("p/900;s0");
            Check.row(x, 0, lane, 0, 0, 1);
            for (int as = 0; as < 3; as++) {
                check.due("lane " + lane + " as " + as, x.year(0, as, 0, 1, 0), as == lane ? 90 : -12);
                check.due("fault", x.fault(), as == lane ? 0 : 2);
                check.due("no triples", x.year(0, as, 0, 0, 0), as == lane ? 0 : -12);
            }
            for (int as : Check.beyond(0, 2)) {
                check.due("lane " + as, x.year(0, as, 0, 1, 0), -2);
                check.due("fault", x.fault(), 0);
            }
        }
        for (int k : Check.beyond(0, 3)) {
            BlankPardons x = Check.in("p/900;s0");
            check.due("sheet " + k, x.year(k, 0, 0, 0, 0), -1);
            check.due("fault", x.fault(), 0);
        }
    }

    private static void noKingdom() {
        check.sentence("STATE: there is no KINGDOM; CAST; NULL; INDEX;");
        BlankPardons x = new BlankPardons();
        check.due("nothing on the sheet", x.year(0, 2, 0, 0, 0), -3);
        check.due("ahead of index", x.year(0, 2, -1, 20, 13), -3);
        x.sheet(0, 2, 3);
        check.due("cells on the sheet", x.year(0, 2, 0, 1, 0), -3);
        check.due("ahead of cast", x.year(0, 0, 0, 1, 0), -3);
        check.due("fault", x.fault(), 0);
        check.due("a text that is not taken", x.kingdom(0, 2, 0, 3), -100);
        check.due("makes no kingdom", x.year(0, 2, 0, 1, 0), -3);
    }

    private static void nothing() {
        check.sentence("1 NULL (there is nothing)");
        BlankPardons x = Check.in("p/900;s0");
        for (int k = 0; k < 4; k++) {
            for (int lane = 0; lane < 3; lane++) {
                check.due("nothing as " + lane, x.year(k, lane, -1, 20, 0), -11);
                check.due("fault", x.fault(), 1);
            }
        }
        x.sheet(1, 1, 0);
        check.due("no cells are something", x.year(1, 1, 0, 0, 1), -9);
        x.lose(1);
        check.due("lost", x.year(1, 1, 0, 0, 1), -11);
    }

    private static void places() {
        check.sentence("3 INDEX (of cells from i on also where i is not 0 .. how many there are, if none of them is taken, too)");
        BlankPardons x = Check.in("p/900;s0");
        x.sheet(0, 2, 7);
        year(x, 0, 0, 0, 0);
        year(x, 7, 0, 0, 0);
        year(x, 8, 0, 0, -13);
        year(x, -1, 0, 0, -13);
        year(x, MIN, 0, 0, -13);
        year(x, MAX, 0, 0, -13);
        year(x, 4, 1, 0, 0);
        year(x, 5, 1, 0, -13);
        year(x, 6, 1, 0, -13);
        year(x, 7, 1, 0, -13);
        year(x, 0, 2, 0, 0);
        year(x, 1, 2, 0, 0);
        year(x, 2, 2, 0, -13);
        year(x, 0, 3, 0, -13);
        year(x, -1, 1, 0, -13);
        year(x, -3, 1, 0, -13);
        year(x, MAX, 20, 0, -13);
        year(x, MAX - 2, 1, 0, -13);
        year(x, MIN, 20, 0, -13);
        year(x, MIN + 1, 1, 0, -13);
    }

    private static void unknownCells() {
        check.sentence("UNKNOWN, triple by triple: a cell is no SUBJECT, no DEED, no ACT.");
        BlankPardons x = Check.in("p/900/900;s0;s0;s0");
        Check.row(x, 0, 2, 0, 0, 0, 2, 1, 2, 0, 0, 0);
        x.grant(2, 1);
        year(x, 0, 3, 0, 90);
        int[] last = {2, 1, 2};
        for (int at = 0; at < 3; at++) {
            for (int bad : Check.beyond(0, last[at])) {
                x.put(0, 3 + at, bad);
                year(x, 0, 3, 1, -1);
            }
            x.put(0, 3 + at, last[at]);
            year(x, 0, 3, 0, 90);
        }
        // Cut to bytes, 256 is 0.
        Check.row(x, 1, 0, 256, 512, 257);
        check.due("cut cells", x.year(1, 0, 0, 1, 0), 90);
        x.put(1, 0, 255);
        check.due("cut to -1", x.year(1, 0, 0, 1, 0), -1);
        check.due("that is no fault", x.fault(), 0);
    }

    private static void cellsThatAreNotTaken() {
        BlankPardons x = Check.in("p/900;s0");
        Check.row(x, 0, 2, 9, 0, 0, 1, 9, 9, 9);
        year(x, 1, 1, 0, 90);
        year(x, 1, 2, 0, -1);
        year(x, 0, 1, 0, -1);
        year(x, 0, 0, 0, 0);
        check.sentence("of several the first in the order in which a call's line tells them");
        // A refusal is no answer of a YEAR: it comes ahead of its FIRST WRONG.
        Check.row(x, 0, 2, 0, 0, 2, 9, 9, 9);
        year(x, 0, 1, 1, 0);
        year(x, 0, 2, 1, -1);
        year(x, 0, 2, 0, -1);
    }

    private static void order() {
        check.sentence("of several the first in the order in which a call's line tells them");
        BlankPardons none = new BlankPardons();
        check.due("sheet ahead of all", none.year(4, 3, -1, 21, 3), -1);
        check.due("lane ahead of state", none.year(0, 3, -1, 1, 0), -2);
        check.due("n ahead of state", none.year(0, 0, -1, 21, 0), -2);
        check.due("n below 0 is no SIZE", none.year(0, 0, -1, -1, 0), -2);
        check.due("what ahead of state", none.year(0, 0, -1, 1, 3), -2);
        check.due("state ahead of null", none.year(0, 0, -1, 1, 0), -3);
        BlankPardons x = Check.in("p/900;s0");
        check.due("what ahead of null", x.year(0, 0, -1, 1, 14), -2);
        check.due("null ahead of index", x.year(0, 0, -1, 1, 0), -11);
        Check.row(x, 0, 1, 9, 9, 9);
        check.due("n below 0 is no SIZE", x.year(0, 1, 0, -1, 0), -2);
        check.due("n ahead of cast", x.year(0, 0, -1, 21, 0), -2);
        check.due("cast ahead of index", x.year(0, 0, -1, 1, 0), -12);
        check.due("index ahead of cells", x.year(0, 1, 0, 2, 0), -13);
        check.due("cells", x.year(0, 1, 0, 1, 0), -1);
    }
}
