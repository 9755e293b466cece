/** Boundary cases of promises 1 to 7 and of the document's section 1. */
public final class EdgeKingdomTest {
    private static final Check check = new Check();
    private static final int MAX = Integer.MAX_VALUE, MIN = Integer.MIN_VALUE;
    private static final String MOST = "p/111/222/333/444/555;s0;m1;h2;s3";
    private static final int NO_OTHER = 999;

    public static void main(String[] args) {
        newObject();
        objectsAreApart();
        howManyDeeds();
        howManySubjects();
        everyCodeAtEveryPlace();
        codesOfOtherLanes();
        endsTooSoon();
        goesOnTooLong();
        sheets();
        lanes();
        nothingIsNoCast();
        sizes();
        places();
        orderOfKingdom();
        allAnew();
        fears();
        valuesAboveNothing();
        ofDeed();
        ofSubject();
        setsAsBits();
        fearOfUnknown();
        alter();
        grant();
        check.finish();
    }

    private static void newObject() {
        check.sentence("No KINGDOM (no DEEDS, SUBJECTS), SHEETS have nothing.");
        BlankPardons x = new BlankPardons();
        check.due("subjects", x.many(0), 0);
        check.due("deeds", x.many(1), 0);
        for (int k = 0; k < 5; k++) {
            check.due("deed " + k, x.ofDeed(k, 0), -1);
            check.due("subject " + k, x.ofSubject(k, 0), -1);
        }
        for (int k = 0; k < 4; k++) {
            for (int lane = 0; lane < 3; lane++) {
                check.due("cell", x.cell(k, 0, lane), BlankPardons.LOST);
                check.due("sheet " + k + " has nothing", x.fault(), 1);
            }
            check.due("lose " + k, x.lose(k), 0);
        }
    }

    private static void objectsAreApart() {
        BlankPardons x = Check.in(MOST);
        Check.row(x, 0, 2, 7);
        x.reading(0, 0, true);
        x.tell(0);
        x.as(0, 2);
        BlankPardons y = new BlankPardons();
        check.due("another object has no subjects", y.many(0), 0);
        check.due("another object has no readings", y.many(3), 0);
        check.due("another object's trace", y.trace(), 0);
        check.due("another object's fault", y.fault(), 0);
        check.due("another object's sheet", y.lose(0), 0);
        check.due("this one's is as it was", x.cell(0, 0, 2), 7);
    }

    private static String text(int deeds, int subjects) {
        return "p" + "/000".repeat(deeds) + ";s0".repeat(subjects);
    }

    private static void howManyDeeds() {
        check.sentence("p, then 1 to 5 DEEDS, numbered from 0 on");
        BlankPardons x = new BlankPardons();
        check.due("no deeds", Check.found(x, text(0, 1)), -101);
        for (int deeds = 1; deeds <= 5; deeds++) {
            check.due(deeds + " deeds", Check.found(x, text(deeds, 1)), 1);
            check.due(deeds + " deeds, many", x.many(1), deeds);
            check.due("the first", x.ofDeed(0, 0), 0);
            check.due("the last", x.ofDeed(deeds - 1, 0), 0);
            check.due("one beyond", x.ofDeed(deeds, 0), -1);
        }
        check.sentence("(the / of a sixth DEED, the ; of a fifth SUBJECT)");
        check.due("six deeds", Check.found(x, text(6, 1)), -121);
        check.due("the sixth's / alone", Check.found(x, text(5, 0) + "/"), -121);
        check.due("what was stays", x.many(1), 5);
    }

    private static void howManySubjects() {
        check.sentence("then 1 to 4 SUBJECTS, numbered from 0 on");
        BlankPardons x = new BlankPardons();
        check.due("no subjects", Check.found(x, text(1, 0)), -105);
        check.due("no subjects, five deeds", Check.found(x, text(5, 0)), -121);
        for (int subjects = 1; subjects <= 4; subjects++) {
            check.due(subjects + " subjects", Check.found(x, text(1, subjects)), subjects);
            check.due(subjects + " subjects, many", x.many(0), subjects);
            check.due("the first", x.ofSubject(0, 0), 0);
            check.due("the last", x.ofSubject(subjects - 1, 0), 0);
            check.due("one beyond", x.ofSubject(subjects, 0), -1);
        }
        check.sentence("(the / of a sixth DEED, the ; of a fifth SUBJECT)");
        check.due("five subjects", Check.found(x, text(1, 5)), -117);
        check.due("the fifth's ; alone", Check.found(x, text(1, 4) + ";"), -117);
        check.due("what was stays", x.many(0), 4);
        BlankPardons y = new BlankPardons();
        check.due("five of each", Check.found(y, text(5, 5)), -133);
        check.due("the most of both", Check.found(y, text(5, 4)), 4);
    }

    private static void everyCodeAtEveryPlace() {
        check.sentence("(Codes: p 112, s 115, m 109, h 104, / 47, ; 59, digits 48 .. 57.)");
        String digits = "0123456789";
        codes(0, "p", NO_OTHER, 0);
        check.sentence("each: / and three digits 0 .. 9 (WORTH, RISK, HURT)");
        codes(1, "/", NO_OTHER, 0);
        codes(2, digits, NO_OTHER, 0);
        codes(3, digits, NO_OTHER, 0);
        codes(4, digits, NO_OTHER, 0);
        // A ; ends the DEEDS, so that the 4 behind it is no letter.
        codes(5, "/", ';', 6);
        codes(6, digits, NO_OTHER, 0);
        codes(7, digits, NO_OTHER, 0);
        codes(8, digits, NO_OTHER, 0);
        check.sentence("each: ; and a letter, a digit 0 .. 3 (PAPERS)");
        // A / begins a DEED, so that the s behind it is no digit.
        codes(9, ";", '/', 10);
        codes(10, "smh", NO_OTHER, 0);
        codes(11, "0123", NO_OTHER, 0);
        codes(12, ";", NO_OTHER, 0);
        codes(13, "smh", NO_OTHER, 0);
        codes(14, "0123", NO_OTHER, 0);
    }

    /** Of the codes of a byte only those that fit are taken at the place; one more has its FIRST FAULT behind it. */
    private static void codes(int place, String fitting, int other, int otherFault) {
        for (int half = 0; half < 2; half++) {
            BlankPardons x = new BlankPardons();
            Check.write(x, 0, 0, "p/123/456;s1;m2");
            for (int code = 128 * half - 128; code < 128 * half; code++) {
                int want = code == other ? -100 - otherFault : fitting.indexOf(code) >= 0 ? 2 : -100 - place;
                x.put(0, place, code);
                check.due("code " + code + " at " + place, x.kingdom(0, 0, 0, 15), want);
            }
        }
    }

    private static void codesOfOtherLanes() {
        String text = "p/123;s1";
        for (int place = 0; place < text.length(); place++) {
            for (int lane = 1; lane < 3; lane++) {
                BlankPardons x = new BlankPardons();
                Check.write(x, 0, lane, text);
                check.due("as it is", x.kingdom(0, lane, 0, 8), 1);
                x.put(0, place, text.charAt(place) + 256);
                check.due("256 more is another code", x.kingdom(0, lane, 0, 8), -100 - place);
                x.put(0, place, text.charAt(place) + 65536);
                check.due("65536 more, lane " + lane, x.kingdom(0, lane, 0, 8), lane == 1 ? 1 : -100 - place);
                x.put(0, place, text.charAt(place) + MIN);
                check.due("the lowest bits alone, lane " + lane, x.kingdom(0, lane, 0, 8), lane == 1 ? 1 : -100 - place);
                x.put(0, place, -text.charAt(place));
                check.due("below 0", x.kingdom(0, lane, 0, 8), -100 - place);
            }
        }
    }

    private static void endsTooSoon() {
        check.sentence("how many codes there are, if it just ends too soon");
        for (int lane = 0; lane < 3; lane++) {
            BlankPardons x = new BlankPardons();
            Check.write(x, 1, lane, MOST);
            for (int n = 0; n <= 33; n++) {
                int want = n >= 24 && n % 3 == 0 ? n / 3 - 7 : -100 - n;
                check.due("the first " + n + " codes", x.kingdom(1, lane, 0, n), want);
            }
        }
        // The row itself ends there, too.
        for (int n = 0; n < 24; n++) {
            check.due("a row of " + n, Check.found(new BlankPardons(), MOST.substring(0, n)), -100 - n);
        }
    }

    private static void goesOnTooLong() {
        check.sentence("the place (from 0 on) of the first code with which no TEXT goes on");
        for (char code : new char[] {0, ' ', '/', ';', '0', 's', 'p', 127}) {
            check.due("behind the last paper: " + (int) code, Check.found(new BlankPardons(), MOST + code), -133);
            if (code != ';') {
                check.due("behind a paper: " + (int) code, Check.found(new BlankPardons(), "p/111;h0" + code), -108);
            }
        }
        check.due("the first of two", Check.found(new BlankPardons(), "p/1x1;q0"), -103);
        check.due("the first of all", Check.found(new BlankPardons(), "?".repeat(60)), -100);
    }

    private static void sheets() {
        check.sentence("SHEETS 0 .. 3 have nothing (at first)");
        for (int k = 0; k < 4; k++) {
            BlankPardons x = new BlankPardons();
            Check.write(x, k, 0, "p/123;s1");
            check.due("sheet " + k, x.kingdom(k, 0, 0, 8), 1);
        }
        for (int k : Check.beyond(0, 3)) {
            BlankPardons x = Check.in(MOST);
            check.due("kingdom, sheet " + k, x.kingdom(k, 0, 0, 0), -1);
            check.due("fault", x.fault(), 0);
        }
    }

    private static void lanes() {
        check.sentence("UNKNOWN; OUTSIDE: lane; CAST (nothing is no CAST); NULL; SIZE: n below 0; INDEX; -100 less it.");
        for (int lane = 0; lane < 3; lane++) {
            BlankPardons x = new BlankPardons();
            Check.write(x, 0, lane, "p/123;s1");
            for (int as = 0; as < 3; as++) {
                check.due("lane " + lane + " as " + as, x.kingdom(0, as, 0, 8), as == lane ? 1 : -12);
                check.due("fault", x.fault(), as == lane ? 0 : 2);
            }
            for (int as : Check.beyond(0, 2)) {
                check.due("lane " + lane + " as " + as, x.kingdom(0, as, 0, 8), -2);
                check.due("fault", x.fault(), 0);
            }
            x.sheet(0, lane, 0);
            check.due("no cells of another lane", x.kingdom(0, (lane + 1) % 3, 0, 0), -12);
            check.due("no cells of its lane", x.kingdom(0, lane, 0, 0), -100);
        }
    }

    private static void nothingIsNoCast() {
        check.sentence("CAST (nothing is no CAST); NULL;");
        BlankPardons x = Check.in(MOST);
        for (int k = 0; k < 4; k++) {
            x.sheet(k, k % 3, 60);
            x.lose(k);
            for (int lane = 0; lane < 3; lane++) {
                check.due("nothing as " + lane, x.kingdom(k, lane, 0, 0), -11);
                check.due("fault", x.fault(), 1);
            }
        }
    }

    private static void sizes() {
        check.sentence("4 SIZE (a length below 0)");
        BlankPardons x = new BlankPardons();
        Check.write(x, 0, 0, "p/123;s1");
        for (int n : new int[] {-1, -8, MIN, MIN + 8, -256}) {
            check.due("kingdom of " + n + " cells", x.kingdom(0, 0, 0, n), -14);
            check.due("fault", x.fault(), 4);
        }
        check.due("kingdom of 0 cells", x.kingdom(0, 0, 0, 0), -100);
        check.due("fault", x.fault(), 0);
    }

    private static void places() {
        check.sentence("A KINGDOM by a TEXT of n cells of a SHEET from i on, taken as a row of a LANE: how many SUBJECTS;"
            + " -100 less the FIRST FAULT.");
        for (int i : new int[] {0, 1, 51, 52}) {
            BlankPardons x = new BlankPardons();
            x.sheet(2, 1, 60);
            for (int k = 0; k < 8; k++) {
                x.put(2, i + k, "p/123;s1".charAt(k));
            }
            check.due("a text from " + i + " on", x.kingdom(2, 1, i, 8), 1);
            check.due("without its last code", x.kingdom(2, 1, i, 7), -107);
            check.due("without its first code", x.kingdom(2, 1, i + 1, 7), -100);
        }
        check.sentence("3 INDEX (of cells from i on also where i is not 0 .. how many there are, if none of them is taken, too)");
        BlankPardons x = new BlankPardons();
        x.sheet(0, 2, 60);
        for (int i = 0; i < 33; i++) {
            x.put(0, 27 + i, MOST.charAt(i));
        }
        place(x, 27, 33, 4);
        place(x, 27, 34, -13);
        place(x, 28, 33, -13);
        place(x, 28, 32, -100);
        place(x, 59, 1, -100);
        place(x, 59, 2, -13);
        place(x, 60, 0, -100);
        place(x, 60, 1, -13);
        place(x, 61, 0, -13);
        place(x, 0, 0, -100);
        place(x, 0, 60, -100);
        place(x, 0, 61, -13);
        place(x, -1, 0, -13);
        place(x, -1, 1, -13);
        place(x, -1, 61, -13);
        place(x, -27, 33, -13);
        place(x, MIN, 0, -13);
        place(x, MAX, 0, -13);
        place(x, 0, MAX, -13);
        place(x, 1, MAX, -13);
        place(x, MAX, 1, -13);
        place(x, MAX, MAX, -13);
        place(x, MIN, MAX, -13);
        place(x, 27 + MIN, 33, -13);
        place(x, 60, MAX - 59, -13);
    }

    private static void place(BlankPardons x, int i, int n, int want) {
        check.due("kingdom from " + i + " on, " + n, x.kingdom(0, 2, i, n), want);
        check.due("fault", x.fault(), want == -13 ? 3 : 0);
    }

    private static void orderOfKingdom() {
        check.sentence("of several the first in the order in which a call's line tells them");
        BlankPardons x = new BlankPardons();
        check.due("unknown ahead of all", x.kingdom(4, 3, -1, -1), -1);
        check.due("outside ahead of null", x.kingdom(0, 3, -1, -1), -2);
        check.due("null ahead of size", x.kingdom(0, 0, -1, -1), -11);
        x.sheet(0, 1, 8);
        check.due("outside ahead of cast", x.kingdom(0, 3, -1, -1), -2);
        check.due("cast ahead of size", x.kingdom(0, 0, -1, -1), -12);
        check.due("cast ahead of index", x.kingdom(0, 0, 9, 1), -12);
        check.sentence("Of a call the first that is come to, in the order told");
        check.due("size ahead of index", x.kingdom(0, 1, 9, -1), -14);
        check.due("index ahead of the text", x.kingdom(0, 1, 0, 9), -13);
        check.due("the text", x.kingdom(0, 1, 0, 8), -100);
    }

    private static void allAnew() {
        check.sentence("A TEXT that is taken makes all anew: no READINGS.");
        BlankPardons x = Check.in("p/123;s1");
        x.alter(0, 0, 9);
        x.grant(0, 3);
        for (int k = 0; k < 8; k++) {
            x.reading(0, 0, true);
        }
        check.due("a text that is not taken", Check.found(x, "p/123;s1;"), -109);
        check.due("leaves the readings", x.many(3), 8);
        check.due("leaves what was altered", x.ofDeed(0, 0), 9);
        check.due("leaves what was granted", x.ofSubject(0, 1), 3);
        check.due("the same text", Check.found(x, "p/123;s1"), 1);
        check.due("no readings", x.many(3), 0);
        check.due("none can be taken back", x.back(1), -2);
        check.due("worth", x.ofDeed(0, 0), 1);
        check.due("papers", x.ofSubject(0, 1), 1);
        check.due("the next reading is the first", x.reading(0, 0, false), 0);
        check.due("most of all behind the least", Check.found(x, MOST), 4);
        check.due("the least behind most of all", Check.found(x, "p/987;h2"), 1);
        check.due("deeds", x.many(1), 1);
        check.due("papers of all", x.many(2), 2);
        check.due("deed 1 is none", x.ofDeed(1, 0), -1);
        check.due("subject 1 is none", x.ofSubject(1, 0), -1);
        check.due("kind", x.ofSubject(0, 0), 2);
    }

    private static void fears() {
        check.sentence("a SUBJECT's RISK times HURT; a MEEK one's 10 more; a HOLY one's twice what a MEEK one's is");
        // Nothing by nothing, nothing by most, most by nothing, one by one, most by most.
        BlankPardons x = Check.in("p/000/009/090/011/999;s0;m0;h0");
        int[][] want = {{0, 0, 0, 1, 81}, {10, 10, 10, 11, 91}, {20, 20, 20, 22, 182}};
        for (int a = 0; a < 3; a++) {
            for (int d = 0; d < 5; d++) {
                check.due("fear(" + a + ", " + d + ")", x.fear(a, d), want[a][d]);
            }
        }
    }

    private static void valuesAboveNothing() {
        check.sentence("A SUBJECT DOES a DEED unpardoned, if its VALUE is above 0.");
        // Of each kind: one of 0, then one of the least above 0 (a HOLY one's are even), and one just below.
        does("p/125;s0", 0);
        does("p/133;s0", 1);
        does("p/126;s0", 0);
        does("p/000;s0", 0);
        does("p/100;m0", 0);
        does("p/233;m0", 1);
        does("p/225;m0", 0);
        does("p/200;h0", 0);
        does("p/433;h0", 1);
        does("p/425;h0", 0);
        does("p/999;s0", 1);
        does("p/999;m0", 0);
    }

    private static void does(String text, int want) {
        check.due("done in " + text, Check.in(text).ofSubject(0, 2), want);
    }

    private static void ofDeed() {
        check.sentence("Of a DEED: 0 WORTH, 1 RISK, 2 HURT. UNKNOWN; OUTSIDE.");
        BlankPardons x = Check.in("p/019/901/190/555/987;s0");
        int[][] want = {{0, 1, 9}, {9, 0, 1}, {1, 9, 0}, {5, 5, 5}, {9, 8, 7}};
        for (int d = 0; d < 5; d++) {
            for (int what = 0; what < 3; what++) {
                check.due("ofDeed(" + d + ", " + what + ")", x.ofDeed(d, what), want[d][what]);
            }
        }
        for (int bad : Check.beyond(0, 4)) {
            check.due("deed " + bad, x.ofDeed(bad, 0), -1);
            check.due("deed " + bad + ", unknown ahead of outside", x.ofDeed(bad, 3), -1);
        }
        for (int bad : Check.beyond(0, 2)) {
            check.due("what " + bad, x.ofDeed(4, bad), -2);
        }
        check.due("the second of one", Check.in("p/111;s0").ofDeed(1, 0), -1);
    }

    private static void ofSubject() {
        check.sentence("Of a SUBJECT: 0 kind, 1 PAPERS, 2 DEEDS that they DO unpardoned, as a set. UNKNOWN; OUTSIDE.");
        BlankPardons x = Check.in("p/900/000/000/000/900;s0;m3;h0;s3");
        int[][] want = {{0, 0, 17}, {1, 3, 17}, {2, 0, 17}, {0, 3, 17}};
        for (int a = 0; a < 4; a++) {
            for (int what = 0; what < 3; what++) {
                check.due("ofSubject(" + a + ", " + what + ")", x.ofSubject(a, what), want[a][what]);
            }
        }
        for (int bad : Check.beyond(0, 3)) {
            check.due("subject " + bad, x.ofSubject(bad, 0), -1);
            check.due("subject " + bad + ", unknown ahead of outside", x.ofSubject(bad, 3), -1);
        }
        for (int bad : Check.beyond(0, 2)) {
            check.due("what " + bad, x.ofSubject(3, bad), -2);
        }
        check.due("all deeds", Check.in("p/900/900/900/900/900;h0").ofSubject(0, 2), 31);
        check.due("none", Check.in("p/000/099/999/100/200;h0").ofSubject(0, 2), 0);
        check.due("the second of one", Check.in("p/111;s0").ofSubject(1, 0), -1);
    }

    private static void setsAsBits() {
        check.sentence("Sets are told as bits (bit k for number k).");
        for (int d = 0; d < 5; d++) {
            StringBuilder text = new StringBuilder("p/000/000/000/000/000;s0");
            text.setCharAt(4 * d + 2, '9');
            BlankPardons x = Check.in(text.toString());
            check.due("deed " + d + " alone", x.ofSubject(0, 2), 1 << d);
        }
    }

    private static void fearOfUnknown() {
        check.sentence("FEAR of a DEED. UNKNOWN: SUBJECT, DEED.");
        BlankPardons x = Check.in(MOST);
        check.due("the last of both", x.fear(3, 4), 25);
        for (int bad : Check.beyond(0, 3)) {
            check.due("subject " + bad, x.fear(bad, 0), -1);
        }
        for (int bad : Check.beyond(0, 4)) {
            check.due("deed " + bad, x.fear(0, bad), -1);
        }
        check.due("no subject 4, though there is a deed 4", x.fear(4, 4), -1);
    }

    private static void alter() {
        check.sentence("of a DEED become v (0 .. 9): what they were. UNKNOWN; OUTSIDE.");
        BlankPardons x = Check.in("p/111/111/111/111/111;s0");
        for (int what = 0; what < 3; what++) {
            check.due("to the most", x.alter(4, what, 9), 1);
            check.due("to the same", x.alter(4, what, 9), 9);
            check.due("to the least", x.alter(4, what, 0), 9);
            check.due("it is so", x.ofDeed(4, what), 0);
            for (int v : Check.beyond(0, 9)) {
                check.due("to " + v, x.alter(4, what, v), -2);
            }
            check.due("it stays so", x.ofDeed(4, what), 0);
            check.due("others stay", x.ofDeed(3, what), 1);
        }
        for (int bad : Check.beyond(0, 2)) {
            check.due("what " + bad, x.alter(0, bad, 5), -2);
        }
        for (int bad : Check.beyond(0, 4)) {
            check.due("deed " + bad, x.alter(bad, 0, 5), -1);
            check.due("deed " + bad + ", unknown ahead of outside", x.alter(bad, 3, 10), -1);
        }
        for (int k = 0; k < 12; k++) {
            check.due("nothing is changed", x.ofDeed(k / 3, k % 3), 1);
        }
    }

    private static void grant() {
        check.sentence("PAPERS of a SUBJECT become v (0 .. 3): what they were. UNKNOWN; OUTSIDE.");
        BlankPardons x = Check.in("p/111;s1;m1;h1;s1");
        check.due("to the most", x.grant(3, 3), 1);
        check.due("to the same", x.grant(3, 3), 3);
        check.due("to the least", x.grant(3, 0), 3);
        for (int v : Check.beyond(0, 3)) {
            check.due("to " + v, x.grant(3, v), -2);
        }
        check.due("it stays so", x.ofSubject(3, 1), 0);
        for (int bad : Check.beyond(0, 3)) {
            check.due("subject " + bad, x.grant(bad, 2), -1);
            check.due("subject " + bad + ", unknown ahead of outside", x.grant(bad, 4), -1);
        }
        for (int a = 0; a < 3; a++) {
            check.due("others stay", x.ofSubject(a, 1), 1);
        }
    }
}
