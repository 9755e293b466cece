/** Boundary cases of promises 24 to 29 and of TELLING, TRACE and the FAULTS. */
public final class EdgePartsTest {
    private static final Check check = new Check();
    private static final long LOST = BlankPardons.LOST;

    public static void main(String[] args) {
        telling();
        tellRefused();
        naming();
        nameRefused();
        asOne();
        asRefused();
        traceAtFirst();
        traceWraps();
        traceStays();
        faultAtFirst();
        eachFault();
        cameToNone();
        wasRefused();
        namesNone();
        many();
        manyRefused();
        mostCalls();
        check.finish();
    }

    private static int traced(int from, int... bodies) {
        long trace = from;
        for (int body : bodies) {
            trace = (int) (31L * trace + body);
        }
        return (int) trace;
    }

    private static void telling() {
        check.sentence("SUBJECT (1): PAPERS. MEEK (2): what SUBJECT's gives, and 100. HOLY (3): what MEEK's gives, and what"
            + " SUBJECT's gives (MEEK's left out).");
        for (int papers = 0; papers <= 3; papers++) {
            BlankPardons x = Check.in("p/111;s" + papers + ";m" + papers + ";h" + papers + ";s" + papers);
            int[] want = {papers, 100 + papers, 100 + 2 * papers, papers};
            int[][] bodies = {{1}, {2, 1}, {3, 2, 1, 1}, {1}};
            int trace = 0;
            for (int a = 0; a < 4; a++) {
                check.due("tell(" + a + ")", x.tell(a), want[a]);
                trace = traced(trace, bodies[a]);
                check.due("trace", x.trace(), trace);
            }
        }
    }

    private static void tellRefused() {
        check.sentence("TELLING of a SUBJECT. UNKNOWN.");
        BlankPardons x = Check.in("p/111;s0;m0;h0;s0");
        x.tell(2);
        for (int bad : Check.beyond(0, 3)) {
            check.due("tell(" + bad + ")", x.tell(bad), -1);
            check.due("no body has begun", x.trace(), traced(0, 3, 2, 1, 1));
        }
        check.due("the second of one", Check.in("p/111;h0").tell(1), -1);
        check.due("no kingdom", new BlankPardons().tell(0), -1);
    }

    private static void naming() {
        check.sentence("NAMED by a lent body (4): their number; HOLY ones have their own (5): 70.");
        String[] texts = {"p/111;s0;m0;s0;m0", "p/111;h0;h0;h0;h0"};
        for (int holy = 0; holy < 2; holy++) {
            BlankPardons x = Check.in(texts[holy]);
            int trace = 0;
            for (int a = 0; a < 4; a++) {
                check.due("name(" + a + ")", x.name(a), holy == 1 ? 70 : a);
                trace = traced(trace, 4 + holy);
                check.due("trace", x.trace(), trace);
            }
        }
    }

    private static void nameRefused() {
        check.sentence("How they are NAMED. UNKNOWN.");
        BlankPardons x = Check.in("p/111;s0;m0;h0;s0");
        x.name(2);
        for (int bad : Check.beyond(0, 3)) {
            check.due("name(" + bad + ")", x.name(bad), -1);
            check.due("no body has begun", x.trace(), 5);
        }
        check.due("the second of one", Check.in("p/111;h0").name(1), -1);
        check.due("no kingdom", new BlankPardons().name(0), -1);
    }

    private static void asOne() {
        check.sentence("Kinds: 0 SUBJECT (s); 1 MEEK (m), a SUBJECT; 2 HOLY (h), a MEEK.");
        BlankPardons x = Check.in("p/111;s0;m0;h0;s0");
        int[][] want = {{1, -12, -12}, {1, 1, -12}, {1, 1, 1}, {1, -12, -12}};
        for (int a = 0; a < 4; a++) {
            for (int kind = 0; kind < 3; kind++) {
                check.due("as(" + a + ", " + kind + ")", x.as(a, kind), want[a][kind]);
                check.due("fault", x.fault(), want[a][kind] == 1 ? 0 : 2);
            }
        }
    }

    private static void asRefused() {
        check.sentence("A SUBJECT, taken as one of a kind: 1. UNKNOWN; OUTSIDE; CAST: they are none.");
        BlankPardons x = Check.in("p/111;s0;m0;h0;s0");
        for (int bad : Check.beyond(0, 3)) {
            x.as(0, 2);
            check.due("subject " + bad, x.as(bad, 0), -1);
            check.due("fault", x.fault(), 0);
            check.due("unknown ahead of outside", x.as(bad, 3), -1);
        }
        for (int bad : Check.beyond(0, 2)) {
            for (int a = 0; a < 4; a++) {
                x.as(0, 2);
                check.due("kind " + bad, x.as(a, bad), -2);
                check.due("fault", x.fault(), 0);
            }
        }
        check.due("no kingdom", new BlankPardons().as(0, 0), -1);
        check.due("no kingdom, unknown ahead of outside", new BlankPardons().as(0, 3), -1);
    }

    private static void traceAtFirst() {
        check.sentence("(an int that wraps, 0 at first, becomes 31 times it and the number)");
        BlankPardons x = new BlankPardons();
        check.due("trace", x.trace(), 0);
        check.due("asked again", x.trace(), 0);
        Check.found(x, "p/111;s3");
        check.due("by a kingdom", x.trace(), 0);
        x.tell(0);
        check.due("by one body", x.trace(), 1);
        x.tell(0);
        check.due("by two bodies", x.trace(), 32);
    }

    private static void traceWraps() {
        BlankPardons x = Check.in("p/111;s0");
        // 1, 32, 993, .. : 917087137 is the seventh, the eighth is above what an int holds.
        int[] want = {1, 32, 993, 30784, 954305, 29583456, 917087137, -1635069824, 852443009};
        for (int k = 0; k < want.length; k++) {
            x.tell(0);
            check.due("by " + (k + 1) + " bodies", x.trace(), want[k]);
        }
    }

    private static void traceStays() {
        BlankPardons x = Check.in("p/425;h1");
        x.tell(0);
        int trace = x.trace();
        x.as(0, 2);
        x.as(0, 9);
        x.ofSubject(0, 0);
        x.fear(0, 0);
        x.grant(0, 2);
        x.kinds(0);
        x.reading(0, 0, true);
        check.due("only bodies leave their number", x.trace(), trace);
        Check.found(x, "p/111;s0");
        check.due("it goes on in another kingdom", x.trace(), trace);
        x.tell(0);
        check.due("it goes on in another kingdom", x.trace(), traced(trace, 1));
    }

    private static void faultAtFirst() {
        check.sentence("0: it came to none, or was refused (0 ahead of any)");
        BlankPardons x = new BlankPardons();
        check.due("ahead of any", x.fault(), 0);
        x.ofDeed(0, 0);
        x.lose(9);
        check.due("ahead of any that names one", x.fault(), 0);
    }

    private static void fault(BlankPardons x, String call, long got, long want, int fault) {
        check.due(call, got, want);
        check.due(call + ", then fault()", x.fault(), fault);
        check.due(call + ", then fault() again", x.fault(), fault);
    }

    private static void eachFault() {
        check.sentence("FAULTS are the machine's: 1 NULL (there is nothing), 2 CAST (it is of another LANE, kind), 3 INDEX");
        BlankPardons x = Check.in("p/900;s0");
        fault(x, "kingdom", x.kingdom(0, 0, 0, 0), -11, 1);
        fault(x, "year", x.year(0, 0, 0, 0, 0), -11, 1);
        fault(x, "put", x.put(0, 0, 0), -11, 1);
        fault(x, "cell", x.cell(0, 0, 0), LOST, 1);
        fault(x, "copy", x.copy(0, 0, 0, 0, 0), -11, 1);
        x.sheet(0, 0, 1);
        x.sheet(1, 1, 1);
        fault(x, "kingdom", x.kingdom(0, 1, 0, 0), -12, 2);
        fault(x, "year", x.year(0, 1, 0, 0, 0), -12, 2);
        fault(x, "cell", x.cell(0, 0, 1), LOST, 2);
        fault(x, "copy", x.copy(0, 0, 1, 0, 0), -12, 2);
        fault(x, "as", x.as(0, 1), -12, 2);
        fault(x, "kingdom", x.kingdom(0, 0, 2, 0), -13, 3);
        fault(x, "year", x.year(0, 0, 0, 1, 0), -13, 3);
        fault(x, "put", x.put(0, 1, 0), -13, 3);
        fault(x, "cell", x.cell(0, 1, 0), LOST, 3);
        fault(x, "copy", x.copy(0, 0, 0, 0, 2), -13, 3);
        fault(x, "kingdom", x.kingdom(0, 0, 0, -1), -14, 4);
        fault(x, "sheet", x.sheet(0, 0, -1), -14, 4);
        // The latest of two, either way.
        fault(x, "as", x.as(0, 1), -12, 2);
        fault(x, "put", x.put(0, 1, 0), -13, 3);
    }

    private static void cameToNone() {
        check.sentence("The FAULT of the latest call that names one");
        BlankPardons x = Check.in("p/900;s0");
        x.sheet(0, 2, 3);
        Check.row(x, 2, 2, 0, 0, 2);
        for (int call = 0; call < 8; call++) {
            fault(x, "as", x.as(0, 1), -12, 2);
            switch (call) {
                case 0 -> check.due("sheet", x.sheet(1, 0, 0), 1);
                case 1 -> check.due("put", x.put(0, 2, 1), 1);
                case 2 -> check.due("cell", x.cell(0, 2, 2), 1);
                case 3 -> check.due("copy", x.copy(0, 0, 0, 0, 0), 0);
                case 4 -> check.due("as", x.as(0, 0), 1);
                case 5 -> check.due("year", x.year(0, 2, 0, 1, 0), 90);
                case 6 -> check.due("year with a FIRST WRONG", x.year(2, 2, 0, 1, 0), -100000);
                default -> check.due("a text that is not taken", x.kingdom(0, 2, 0, 3), -100);
            }
            check.due("fault behind call " + call, x.fault(), 0);
        }
        Check.write(x, 0, 0, "p/111;s0");
        fault(x, "as", x.as(0, 1), -12, 2);
        check.due("a text that is taken", x.kingdom(0, 0, 0, 8), 1);
        check.due("fault", x.fault(), 0);
    }

    private static void wasRefused() {
        BlankPardons x = Check.in("p/900;s0");
        x.sheet(0, 2, 3);
        x.put(0, 0, 9);
        for (int call = 0; call < 14; call++) {
            fault(x, "as", x.as(0, 1), -12, 2);
            switch (call) {
                case 0 -> check.due("kingdom", x.kingdom(4, 0, 0, 0), -1);
                case 1 -> check.due("kingdom", x.kingdom(0, 3, 0, 0), -2);
                case 2 -> check.due("year", x.year(4, 0, 0, 0, 0), -1);
                case 3 -> check.due("year", x.year(0, 0, 0, 21, 0), -2);
                case 4 -> check.due("year of an unknown cell", x.year(0, 2, 0, 1, 0), -1);
                case 5 -> check.due("sheet", x.sheet(4, 0, 0), -1);
                case 6 -> check.due("sheet", x.sheet(0, 0, 61), -2);
                case 7 -> check.due("put", x.put(4, 0, 0), -1);
                case 8 -> check.due("cell", x.cell(4, 0, 0), LOST);
                case 9 -> check.due("cell", x.cell(0, 0, 3), LOST);
                case 10 -> check.due("copy", x.copy(4, 0, 0, 0, 0), -1);
                case 11 -> check.due("copy", x.copy(0, 0, 4, 0, 0), -1);
                case 12 -> check.due("as", x.as(1, 0), -1);
                default -> check.due("as", x.as(0, 3), -2);
            }
            check.due("fault behind refused call " + call, x.fault(), 0);
        }
        BlankPardons none = new BlankPardons();
        fault(none, "put", none.put(0, 0, 0), -11, 1);
        check.due("year without a kingdom", none.year(0, 0, 0, 0, 0), -3);
        check.due("fault", none.fault(), 0);
    }

    private static void namesNone() {
        check.sentence("They change nothing (but fault(), of a call that names FAULTS).");
        BlankPardons x = Check.in("p/425;s1");
        for (int refused = 0; refused < 2; refused++) {
            int k = refused * 9;
            x.as(0, 2);
            x.ofDeed(k, 0);
            x.ofSubject(k, 0);
            x.fear(k, 0);
            x.alter(k, 0, 5);
            x.grant(k, 1);
            x.hope(k, 0, 0, 0);
            x.uses(k, 1, 1);
            x.buyers(0, k);
            x.best(k);
            x.reading(k, 0, true);
            x.back(k);
            x.risks(k);
            x.hurts(k);
            x.kinds(k);
            x.odds(k, 0, 0);
            x.lose(k);
            x.tell(k);
            x.name(k);
            x.trace();
            x.many(k);
            check.due("fault stays", x.fault(), 2);
        }
    }

    private static void many() {
        check.sentence("How many: 0 SUBJECTS, 1 DEEDS, 2 PAPERS of all, 3 READINGS (0 all without a KINGDOM).");
        BlankPardons x = new BlankPardons();
        counts(x, 0, 0, 0, 0);
        Check.found(x, "p/111;s4");
        counts(x, 0, 0, 0, 0);
        Check.found(x, "p/111/111/111/111/111;s3;m3;h3;s3");
        counts(x, 4, 5, 12, 0);
        for (int k = 0; k < 9; k++) {
            x.reading(0, 0, true);
        }
        counts(x, 4, 5, 12, 8);
        Check.found(x, "p/111;s0");
        counts(x, 1, 1, 0, 0);
    }

    private static void counts(BlankPardons x, int... want) {
        for (int what = 0; what < 4; what++) {
            check.due("many(" + what + ")", x.many(what), want[what]);
        }
    }

    private static void manyRefused() {
        BlankPardons x = Check.in("p/111;s0");
        BlankPardons none = new BlankPardons();
        for (int bad : Check.beyond(0, 3)) {
            check.due("many(" + bad + ")", x.many(bad), -2);
            check.due("many(" + bad + ") without a kingdom", none.many(bad), -2);
        }
    }

    private static void mostCalls() {
        check.sentence("An object is used for at most 512 calls after it has been made");
        // 11 calls found the kingdom; the 512th tells what 500 before it have left.
        BlankPardons x = Check.in("p/111;h3");
        int trace = 0;
        for (int k = 0; k < 500; k++) {
            check.due("tell", x.tell(0), 106);
            trace = traced(trace, 3, 2, 1, 1);
        }
        check.due("the 512th call", x.trace(), trace);
        BlankPardons y = new BlankPardons();
        for (int k = 0; k < 256; k++) {
            check.due("sheet", y.sheet(k % 4, k % 3, 60), 1);
            check.due("cell", y.put(k % 4, 59, k), 1);
        }
    }
}
