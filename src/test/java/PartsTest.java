/** Promises 24 to 29: tell, name, as, trace, fault, many. */
public final class PartsTest {
    private static final Check check = new Check();

    public static void main(String[] args) {
        telling();
        naming();
        wraps();
        kinds();
        faults();
        many();
        check.finish();
    }

    private static int bodies(int from, int... numbers) {
        int trace = from;
        for (int number : numbers) {
            trace = 31 * trace + number;
        }
        return trace;
    }

    private static void telling() {
        BlankPardons x = Check.in("p/111;h3;m2;s1");
        check.due("24: holy", x.tell(0), 106);
        int trace = bodies(0, 3, 2, 1, 1);
        check.due("27: holy", x.trace(), trace);
        check.due("24: meek", x.tell(1), 102);
        trace = bodies(trace, 2, 1);
        check.due("27: meek", x.trace(), trace);
        check.due("24: subject", x.tell(2), 1);
        trace = bodies(trace, 1);
        check.due("27: subject", x.trace(), trace);
        check.due("24: unknown", x.tell(3), -1);
        check.due("24: unknown", x.tell(-1), -1);
        check.due("27: refusals leave nothing", x.trace(), trace);
        x.grant(0, 0);
        check.due("24: by papers as they are", x.tell(0), 100);
    }

    private static void naming() {
        BlankPardons x = Check.in("p/111;s0;m0;h0;m0");
        check.due("25: subject", x.name(0), 0);
        check.due("25: meek", x.name(1), 1);
        check.due("25: holy", x.name(2), 70);
        check.due("25: meek", x.name(3), 3);
        int trace = bodies(0, 4, 4, 5, 4);
        check.due("27: names", x.trace(), trace);
        check.due("25: unknown", x.name(4), -1);
        check.due("25: unknown", x.name(-1), -1);
        check.due("27: refusals leave nothing", x.trace(), trace);
        check.due("27: trace leaves nothing", x.trace(), trace);
    }

    private static void wraps() {
        BlankPardons x = Check.in("p/111;h0");
        int trace = 0;
        for (int k = 0; k < 20; k++) {
            x.tell(0);
            x.name(0);
            trace = bodies(trace, 3, 2, 1, 1, 5);
            check.due("27: wraps", x.trace(), trace);
        }
    }

    private static void kinds() {
        BlankPardons x = Check.in("p/111;s0;m0;h0");
        for (int a = 0; a < 3; a++) {
            for (int kind = 0; kind < 3; kind++) {
                boolean is = kind <= a;
                check.due("26: as(" + a + ", " + kind + ")", x.as(a, kind), is ? 1 : -12);
                check.due("28: fault of as", x.fault(), is ? 0 : 2);
            }
            check.due("26: outside", x.as(a, 3), -2);
            check.due("26: outside", x.as(a, -1), -2);
        }
        check.due("26: unknown first", x.as(3, 3), -1);
        check.due("26: unknown", x.as(-1, 0), -1);
        check.due("26: leaves no trace", x.trace(), 0);
    }

    /** Calls that name no FAULT leave fault() as it was; those that do, clear it if they come to none. */
    private static void faults() {
        BlankPardons x = Check.in("p/425;s1");
        Check.row(x, 0, 2, 0, 0, 0);
        check.due("28: set", x.as(0, 2), -12);
        x.ofDeed(0, 0);
        x.ofSubject(9, 0);
        x.fear(0, 0);
        x.alter(0, 0, 5);
        x.grant(0, 9);
        x.hope(0, 0, 0, 0);
        x.hope(9, 0, 0, 0);
        x.uses(0, 1, 1);
        x.buyers(0, 0);
        x.best(8);
        x.reading(0, 0, true);
        x.back(1);
        x.back(1);
        x.risks(0);
        x.hurts(0);
        x.kinds(0);
        x.odds(0, 0, 0);
        x.lose(1);
        x.tell(0);
        x.name(0);
        x.trace();
        x.many(0);
        x.many(9);
        check.due("28: stays", x.fault(), 2);
        check.due("28: fault leaves itself", x.fault(), 2);
        for (int call = 0; call < 14; call++) {
            x.as(0, 1);
            check.due("28: set", x.fault(), 2);
            without(x, call);
            check.due("28: cleared by " + call, x.fault(), 0);
        }
    }

    private static void without(BlankPardons x, int call) {
        switch (call) {
            case 0: x.kingdom(9, 0, 0, 0); break;
            case 1: x.kingdom(0, 2, 0, 1); break;
            case 2: x.year(0, 2, 0, 1, 0); break;
            case 3: x.year(0, 2, 0, 99, 0); break;
            case 4: x.sheet(1, 1, 1); break;
            case 5: x.sheet(1, 1, 99); break;
            case 6: x.put(1, 0, 1); break;
            case 7: x.put(9, 0, 1); break;
            case 8: x.cell(1, 0, 1); break;
            case 9: x.cell(1, 0, 9); break;
            case 10: x.copy(1, 0, 1, 0, 1); break;
            case 11: x.copy(1, 0, 9, 0, 1); break;
            case 12: x.as(0, 0); break;
            default: x.as(9, 0); break;
        }
    }

    private static void many() {
        BlankPardons x = Check.in("p/111/222/333;s1;m3");
        x.reading(0, 0, true);
        int[] want = {2, 3, 4, 1};
        for (int what = 0; what < 4; what++) {
            check.due("29: many", x.many(what), want[what]);
        }
        x.grant(0, 3);
        check.due("29: papers", x.many(2), 6);
        check.due("29: outside", x.many(4), -2);
        check.due("29: outside", x.many(-1), -2);
        check.due("29: outside, no kingdom", new BlankPardons().many(4), -2);
    }
}
