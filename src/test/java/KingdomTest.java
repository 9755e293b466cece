/** Promises 1 to 7: a new object, kingdom, ofDeed, ofSubject, fear, alter, grant. */
public final class KingdomTest {
    private static final Check check = new Check();
    private static final int MAX = Integer.MAX_VALUE, MIN = Integer.MIN_VALUE;

    public static void main(String[] args) {
        newObject();
        textsTaken();
        firstFaults();
        kingdomRefusals();
        allAnew();
        ofDeed();
        ofSubject();
        fear();
        alter();
        grant();
        check.finish();
    }

    private static void newObject() {
        BlankPardons x = new BlankPardons();
        for (int what = 0; what < 4; what++) {
            check.due("1: many " + what, x.many(what), 0);
        }
        check.due("1: trace", x.trace(), 0);
        check.due("1: fault", x.fault(), 0);
        for (int k = 0; k < 4; k++) {
            check.due("1: lose " + k, x.lose(k), 0);
            check.due("1: put " + k, x.put(k, 0, 0), -11);
        }
        check.due("1: ofDeed", x.ofDeed(0, 0), -1);
        check.due("1: ofSubject", x.ofSubject(0, 0), -1);
        check.due("1: fear", x.fear(0, 0), -1);
        check.due("1: back(0)", x.back(0), 0);
        check.due("1: back(1)", x.back(1), -2);
        check.due("1: odds", x.odds(0, 0, 0), Long.MIN_VALUE);
    }

    private static void textsTaken() {
        for (int lane = 0; lane < 3; lane++) {
            BlankPardons x = new BlankPardons();
            String text = "xxp/123/456;s0;h3;m2yy";
            Check.write(x, 1, lane, text);
            check.due("2: inside a row", x.kingdom(1, lane, 2, 18), 3);
            check.due("2: deeds", x.many(1), 2);
            check.due("2: fault", x.fault(), 0);
            check.due("2: worth", x.ofDeed(1, 0), 4);
            check.due("2: risk", x.ofDeed(1, 1), 5);
            check.due("2: hurt", x.ofDeed(1, 2), 6);
            check.due("2: kind", x.ofSubject(1, 0), 2);
            check.due("2: papers", x.ofSubject(2, 1), 2);
        }
        BlankPardons y = new BlankPardons();
        check.due("2: least", Check.found(y, "p/000;s0"), 1);
        check.due("2: most", Check.found(y, "p/999/999/999/999/999;s3;m3;h3;s3"), 4);
        check.due("2: most, deeds", y.many(1), 5);
    }

    private static void firstFaults() {
        fault("", 0);
        fault("q", 0);
        fault("P/123;s1", 0);
        fault("p", 1);
        fault("p;s1", 1);
        fault("pp", 1);
        fault("p/", 2);
        fault("p/a", 2);
        fault("p/1", 3);
        fault("p/1/", 3);
        fault("p/12", 4);
        fault("p/12:", 4);
        fault("p/123", 5);
        fault("p/1234", 5);
        fault("p/123x", 5);
        fault("p/123/", 6);
        fault("p/123/;", 6);
        fault("p/123;", 6);
        fault("p/123;x", 6);
        fault("p/123;S", 6);
        fault("p/123;/", 6);
        fault("p/123;1", 6);
        fault("p/123;s", 7);
        fault("p/123;s4", 7);
        fault("p/123;s/", 7);
        fault("p/123;h;", 7);
        fault("p/123;s1/", 8);
        fault("p/123;s1/456;m1", 8);
        fault("p/123;s1 ", 8);
        fault("p/123;s12", 8);
        fault("p/123;s1;", 9);
        fault("p/111/111/111/111/111", 21);
        fault("p/111/111/111/111/111/", 21);
        fault("p/111/111/111/111/111/111;s1", 21);
        fault("p/111;s1;s1;s1;s1;", 17);
        fault("p/111;s1;s1;s1;s1;s1", 17);
        fault("p/111;s1;s1;s1;s1s", 17);
        fault("p/111;s1;s1;s1;", 15);
        cutCodes();
    }

    private static void fault(String text, int place) {
        BlankPardons x = Check.in("p/987;h2;m1");
        x.reading(0, 0, true);
        check.due("2: first fault of '" + text + "'", Check.found(x, text), -100 - place);
        check.due("2: '" + text + "' leaves the subjects", x.many(0), 2);
        check.due("2: '" + text + "' leaves the readings", x.many(3), 1);
        check.due("2: '" + text + "' leaves the deeds", x.ofDeed(0, 0), 9);
    }

    private static void cutCodes() {
        BlankPardons x = new BlankPardons();
        // 368 is 112 in a byte, 65648 in a short too.
        Check.row(x, 0, 0, 368);
        check.due("2: a byte is cut", x.kingdom(0, 0, 0, 1), -101);
        Check.row(x, 0, 1, 368);
        check.due("2: a short is not cut by bytes", x.kingdom(0, 1, 0, 1), -100);
        Check.row(x, 0, 1, 65648);
        check.due("2: a short is cut", x.kingdom(0, 1, 0, 1), -101);
        Check.row(x, 0, 2, 65648);
        check.due("2: an int is not cut", x.kingdom(0, 2, 0, 1), -100);
        Check.row(x, 0, 2, 'p', '/', -9, '1', '1');
        check.due("2: codes below 0", x.kingdom(0, 2, 0, 5), -102);
    }

    private static void kingdomRefusals() {
        BlankPardons x = Check.in("p/987;h2;m1");
        x.sheet(0, 1, 8);
        refused(x, x.kingdom(4, 3, -1, -1), -1);
        refused(x, x.kingdom(-1, 0, 0, 0), -1);
        refused(x, x.kingdom(1, 3, -1, -1), -2);
        refused(x, x.kingdom(0, -1, -1, -1), -2);
        refused(x, x.kingdom(0, 0, -1, -1), -12);
        refused(x, x.kingdom(0, 2, 0, 8), -12);
        refused(x, x.kingdom(1, 0, -1, -1), -11);
        refused(x, x.kingdom(0, 1, -1, -1), -14);
        refused(x, x.kingdom(0, 1, 0, MIN), -14);
        refused(x, x.kingdom(0, 1, -1, 0), -13);
        refused(x, x.kingdom(0, 1, 9, 0), -13);
        refused(x, x.kingdom(0, 1, 0, 9), -13);
        refused(x, x.kingdom(0, 1, 1, MAX), -13);
        refused(x, x.kingdom(0, 1, MAX, MAX), -13);
        refused(x, x.kingdom(0, 1, MIN, 1), -13);
        refused(x, x.kingdom(0, 1, 8, 0), -100);
        refused(x, x.kingdom(0, 1, 8, 1), -13);
        x.lose(0);
        refused(x, x.kingdom(0, 0, 0, 0), -11);
    }

    private static void refused(BlankPardons x, int answer, int want) {
        check.due("2: refusal", answer, want);
        check.due("2: fault of " + want, x.fault(), want <= -11 && want >= -14 ? -10 - want : 0);
        check.due("2: subjects stay", x.many(0), 2);
    }

    private static void allAnew() {
        BlankPardons x = Check.in("p/987/111;h2;m1");
        x.reading(0, 0, true);
        x.tell(1);
        Check.row(x, 0, 2, 7);
        int traced = x.trace();
        x.alter(0, 0, 1);
        x.grant(0, 3);
        check.due("2: anew", Check.found(x, "p/500;s1"), 1);
        check.due("2: no readings", x.many(3), 0);
        check.due("2: deeds anew", x.many(1), 1);
        check.due("2: papers anew", x.many(2), 1);
        check.due("2: the old deed is gone", x.ofDeed(1, 0), -1);
        check.due("2: the old subject is gone", x.ofSubject(1, 0), -1);
        check.due("2: worth anew", x.ofDeed(0, 0), 5);
        check.due("2: kind anew", x.ofSubject(0, 0), 0);
        check.due("2: TRACE stays", x.trace(), traced);
        check.due("2: sheets stay", x.cell(0, 0, 2), 7);
    }

    private static void ofDeed() {
        BlankPardons x = Check.in("p/123/406;s0");
        int[] want = {1, 2, 3, 4, 0, 6};
        for (int k = 0; k < 6; k++) {
            check.due("3: ofDeed", x.ofDeed(k / 3, k % 3), want[k]);
        }
        check.due("3: unknown first", x.ofDeed(2, 3), -1);
        check.due("3: unknown", x.ofDeed(-1, 0), -1);
        check.due("3: outside", x.ofDeed(0, 3), -2);
        check.due("3: outside", x.ofDeed(1, -1), -2);
    }

    private static void ofSubject() {
        // FEARS: 10, 20, 40 of deed 0; 0, 10, 20 of deed 1; 9, 19, 38 of deed 2.
        BlankPardons x = Check.in("p/225/109/919;s3;m0;h1");
        check.due("4: kind", x.ofSubject(0, 0), 0);
        check.due("4: kind", x.ofSubject(1, 0), 1);
        check.due("4: kind", x.ofSubject(2, 0), 2);
        check.due("4: papers", x.ofSubject(0, 1), 3);
        check.due("4: papers", x.ofSubject(1, 1), 0);
        check.due("4: does", x.ofSubject(0, 2), 7);
        check.due("4: a VALUE of 0 is not done", x.ofSubject(1, 2), 4);
        check.due("4: does", x.ofSubject(2, 2), 4);
        check.due("4: a VALUE of 1 is done", Check.in("p/133;s0").ofSubject(0, 2), 1);
        BlankPardons most = Check.in("p/900/900/900/900/900;s0;m0;h0;s0");
        check.due("4: five deeds", most.ofSubject(3, 2), 31);
        Check.found(most, "p/900;s0");
        check.due("4: none of the deeds that were", most.ofSubject(0, 2), 1);
        check.due("4: unknown first", x.ofSubject(3, 3), -1);
        check.due("4: unknown", x.ofSubject(-1, 0), -1);
        check.due("4: outside", x.ofSubject(0, 3), -2);
        check.due("4: outside", x.ofSubject(0, -1), -2);
    }

    private static void fear() {
        BlankPardons x = Check.in("p/099/170;s0;m0;h0");
        int[] want = {81, 91, 182, 0, 10, 20};
        for (int k = 0; k < 6; k++) {
            check.due("5: fear", x.fear(k % 3, k / 3), want[k]);
        }
        check.due("5: subject", x.fear(3, 0), -1);
        check.due("5: subject", x.fear(-1, 0), -1);
        check.due("5: deed", x.fear(0, 2), -1);
        check.due("5: deed", x.fear(0, -1), -1);
    }

    private static void alter() {
        BlankPardons x = Check.in("p/123/456;s0");
        for (int what = 0; what < 3; what++) {
            check.due("6: what it was", x.alter(1, what, 9 - what), 4 + what);
            check.due("6: what it is", x.ofDeed(1, what), 9 - what);
            check.due("6: the other stays", x.ofDeed(0, what), 1 + what);
        }
        check.due("6: 0", x.alter(0, 0, 0), 1);
        check.due("6: fear by it", x.fear(0, 1), 56);
        check.due("6: unknown first", x.alter(2, 3, 10), -1);
        check.due("6: unknown", x.alter(-1, 0, 0), -1);
        check.due("6: what", x.alter(1, 3, 0), -2);
        check.due("6: what", x.alter(1, -1, 0), -2);
        check.due("6: v", x.alter(1, 0, 10), -2);
        check.due("6: v", x.alter(1, 0, -1), -2);
        check.due("6: refusals change nothing", x.ofDeed(1, 0), 9);
    }

    private static void grant() {
        BlankPardons x = Check.in("p/123;s0;m2");
        check.due("7: what they were", x.grant(1, 3), 2);
        check.due("7: what they are", x.ofSubject(1, 1), 3);
        check.due("7: the other's stay", x.ofSubject(0, 1), 0);
        check.due("7: 0", x.grant(1, 0), 3);
        check.due("7: all", x.many(2), 0);
        check.due("7: unknown first", x.grant(2, 4), -1);
        check.due("7: unknown", x.grant(-1, 0), -1);
        check.due("7: v", x.grant(0, 4), -2);
        check.due("7: v", x.grant(0, -1), -2);
        check.due("7: refusals change nothing", x.ofSubject(0, 1), 0);
    }
}
