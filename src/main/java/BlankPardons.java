/**
 * Pardons that a king signs without the crimes: deeds, subjects with papers, years, hopes, prices,
 * and what can be told by who did what. The document's promises say what each call answers.
 */
public final class BlankPardons {
    public static final int UNKNOWN = -1, OUTSIDE = -2, STATE = -3, FULL = -4, NONE = -9;
    public static final long LOST = Long.MIN_VALUE;

    private static final int NULL = 1, CAST = 2, INDEX = 3, SIZE = 4;

    private static final int SHEETS = 4, LANES = 3, MOST_CELLS = 60;
    private static final int MOST_DEEDS = 5, MOST_SUBJECTS = 4, MOST_PAPERS = 3, KINDS = 3;
    private static final int MOST_TRIPLES = 20, MOST_DAYS = 8, MOST_READINGS = 8, MOST_TIMES = 3;
    private static final int MOST_PRICE = 99;

    private static final int BYTES = 0, SHORTS = 1;
    private static final int WORTH = 0, RISK = 1, HURT = 2;
    private static final int SUBJECT = 0, MEEK = 1, HOLY = 2;
    private static final int UNPARDONED = 1, PARDONED = 2;
    private static final int FIRST_LEFT = 10;

    private static final int TAKEN = -1;

    private final Row[] sheets = new Row[SHEETS];
    private final Realm realm = new Realm();
    private final Readings readings = new Readings();
    private final Outlook outlook = new Outlook();
    private final Year lived = new Year();
    private final long[] gains = new long[MOST_SUBJECTS];
    private int traced;
    private int latestFault;

    public BlankPardons() {
        for (int k = 0; k < SHEETS; k++) {
            sheets[k] = new Row();
        }
    }

    // ---- 1 the kingdom

    public int kingdom(int sheet, int lane, int i, int n) {
        latestFault = 0;
        if (!isSheet(sheet)) {
            return UNKNOWN;
        }
        if (!isBelow(lane, LANES)) {
            return OUTSIDE;
        }
        Row row = sheets[sheet];
        int found = faultAs(row, lane);
        if (found != 0) {
            return failed(found);
        }
        if (n < 0) {
            return failed(SIZE);
        }
        if (!row.spans(i, n)) {
            return failed(INDEX);
        }
        Text text = new Text(row, i, n);
        int firstFault = text.firstFault();
        if (firstFault != TAKEN) {
            return -100 - firstFault;
        }
        realm.found(text);
        readings.count = 0;
        return realm.subjectCount;
    }

    public int ofDeed(int d, int what) {
        if (!realm.hasDeed(d)) {
            return UNKNOWN;
        }
        if (!isBelow(what, 3)) {
            return OUTSIDE;
        }
        return realm.deeds[d][what];
    }

    public int ofSubject(int a, int what) {
        if (!realm.hasSubject(a)) {
            return UNKNOWN;
        }
        switch (what) {
            case 0:
                return realm.kindOf[a];
            case 1:
                return realm.papers[a];
            case 2:
                return realm.doneBy(a);
            default:
                return OUTSIDE;
        }
    }

    public int fear(int a, int d) {
        if (!realm.hasSubject(a) || !realm.hasDeed(d)) {
            return UNKNOWN;
        }
        return realm.fearOf(a, d);
    }

    public int alter(int d, int what, int v) {
        if (!realm.hasDeed(d)) {
            return UNKNOWN;
        }
        if (!isBelow(what, 3) || !isBelow(v, 10)) {
            return OUTSIDE;
        }
        int was = realm.deeds[d][what];
        realm.deeds[d][what] = v;
        return was;
    }

    public int grant(int a, int v) {
        if (!realm.hasSubject(a)) {
            return UNKNOWN;
        }
        if (!isBelow(v, MOST_PAPERS + 1)) {
            return OUTSIDE;
        }
        int was = realm.papers[a];
        realm.papers[a] = v;
        return was;
    }

    // ---- 2 years

    public int year(int sheet, int lane, int i, int n, int what) {
        latestFault = 0;
        if (!isSheet(sheet)) {
            return UNKNOWN;
        }
        if (!isBelow(lane, LANES) || !isBelow(n, MOST_TRIPLES + 1) || !isAskedOfYears(what)) {
            return OUTSIDE;
        }
        if (!realm.isThere()) {
            return STATE;
        }
        Row row = sheets[sheet];
        int found = faultAs(row, lane);
        if (found != 0) {
            return failed(found);
        }
        if (!row.spans(i, 3 * n)) {
            return failed(INDEX);
        }
        if (!areTriples(row, i, n)) {
            return UNKNOWN;
        }
        lived.live(realm, row, i, n);
        return ofYear(what);
    }

    private static boolean isAskedOfYears(int what) {
        return isBelow(what, 3) || what >= FIRST_LEFT && what < FIRST_LEFT + MOST_SUBJECTS;
    }

    private boolean areTriples(Row row, int i, int n) {
        for (int t = 0; t < n; t++) {
            int at = i + 3 * t;
            if (!realm.hasSubject(row.cells[at]) || !realm.hasDeed(row.cells[at + 1])
                    || !isBelow(row.cells[at + 2], 3)) {
                return false;
            }
        }
        return true;
    }

    private int ofYear(int what) {
        if (what == 1) {
            return lived.firstWrong;
        }
        if (lived.firstWrong != NONE) {
            return -100000 - lived.firstWrong;
        }
        if (what == 0) {
            return lived.values;
        }
        if (what == 2) {
            return lived.pardoned;
        }
        int a = what - FIRST_LEFT;
        return realm.hasSubject(a) ? lived.left[a] : NONE;
    }

    // ---- 3 hope, buyers

    public long hope(int a, int n, int papers, int which) {
        if (!realm.hasSubject(a)) {
            return LOST;
        }
        if (!isBelow(n, MOST_DAYS + 1) || !isBelow(papers, MOST_PAPERS + 1) || !isBelow(which, 2)) {
            return LOST;
        }
        outlook.lookAhead(realm, a, n);
        return inLeastTerms(outlook.hopes[n][papers], outlook.scales[n], which);
    }

    public int uses(int a, int n, int papers) {
        if (!realm.hasSubject(a)) {
            return UNKNOWN;
        }
        if (n < 1 || n > MOST_DAYS || papers < 1 || papers > MOST_PAPERS) {
            return OUTSIDE;
        }
        outlook.lookAhead(realm, a, n - 1);
        int set = 0;
        for (int d = 0; d < realm.deedCount; d++) {
            if (outlook.byPaper(realm, d, n - 1, papers) > outlook.byNone(realm, a, d, n - 1, papers)) {
                set |= 1 << d;
            }
        }
        return set;
    }

    public int buyers(int price, int n) {
        if (!isBelow(price, MOST_PRICE + 1) || !isBelow(n, MOST_DAYS + 1)) {
            return OUTSIDE;
        }
        if (!realm.isThere()) {
            return STATE;
        }
        weighPapers(n);
        return buyersAt(price, n);
    }

    public int best(int n) {
        if (!isBelow(n, MOST_DAYS + 1)) {
            return OUTSIDE;
        }
        if (!realm.isThere()) {
            return STATE;
        }
        weighPapers(n);
        int bestPrice = NONE;
        int most = 0;
        for (int price = 1; price <= MOST_PRICE; price++) {
            int brought = price * Integer.bitCount(buyersAt(price, n));
            if (brought > most) {
                most = brought;
                bestPrice = price;
            }
        }
        return bestPrice;
    }

    private void weighPapers(int n) {
        for (int a = 0; a < realm.subjectCount; a++) {
            outlook.lookAhead(realm, a, n);
            gains[a] = outlook.hopes[n][1] - outlook.hopes[n][0];
        }
    }

    private int buyersAt(int price, int n) {
        int set = 0;
        for (int a = 0; a < realm.subjectCount; a++) {
            if (gains[a] >= price * outlook.scales[n]) {
                set |= 1 << a;
            }
        }
        return set;
    }

    // ---- 4 who did what

    public int reading(int a, int d, boolean does) {
        if (!realm.hasSubject(a) || !realm.hasDeed(d)) {
            return UNKNOWN;
        }
        if (readings.count >= MOST_READINGS) {
            return FULL;
        }
        return readings.note(a, d, does);
    }

    public int back(int k) {
        if (k < 0 || k > readings.count) {
            return OUTSIDE;
        }
        readings.count -= k;
        return readings.count;
    }

    public int risks(int d) {
        if (!realm.hasDeed(d)) {
            return UNKNOWN;
        }
        return readings.fitting(realm, realm.deeds[d], RISK, 10);
    }

    public int hurts(int d) {
        if (!realm.hasDeed(d)) {
            return UNKNOWN;
        }
        return readings.fitting(realm, realm.deeds[d], HURT, 10);
    }

    public int kinds(int a) {
        if (!realm.hasSubject(a)) {
            return UNKNOWN;
        }
        return readings.fitting(realm, realm.kindOf, a, KINDS);
    }

    public long odds(int set, int n, int which) {
        if (!realm.isThere()) {
            return LOST;
        }
        if (!isBelow(set, 1 << realm.deedCount) || !isBelow(n, MOST_TIMES + 1) || !isBelow(which, 2)) {
            return LOST;
        }
        long upper = 1;
        long lower = 1;
        for (int d = 0; d < realm.deedCount; d++) {
            int times = (set >> d & 1) == 1 ? n : 0;
            for (int t = 0; t < times; t++) {
                upper *= 10 - realm.deeds[d][RISK];
                lower *= 10;
            }
        }
        return inLeastTerms(upper, lower, which);
    }

    // ---- 5 sheets, parts

    public int sheet(int k, int lane, int n) {
        latestFault = 0;
        if (!isSheet(k)) {
            return UNKNOWN;
        }
        if (!isBelow(lane, LANES) || n > MOST_CELLS) {
            return OUTSIDE;
        }
        if (n < 0) {
            return failed(SIZE);
        }
        sheets[k].renew(lane, n);
        return 1;
    }

    public int lose(int k) {
        if (!isSheet(k)) {
            return UNKNOWN;
        }
        int had = sheets[k].isThere ? 1 : 0;
        sheets[k].isThere = false;
        return had;
    }

    public int put(int k, int i, int v) {
        latestFault = 0;
        if (!isSheet(k)) {
            return UNKNOWN;
        }
        Row row = sheets[k];
        if (!row.isThere) {
            return failed(NULL);
        }
        if (!isBelow(i, row.length)) {
            return failed(INDEX);
        }
        row.cells[i] = row.cut(v);
        return 1;
    }

    public long cell(int k, int i, int lane) {
        latestFault = 0;
        if (!isSheet(k) || !isBelow(lane, LANES)) {
            return LOST;
        }
        Row row = sheets[k];
        latestFault = faultAs(row, lane);
        if (latestFault != 0) {
            return LOST;
        }
        if (!isBelow(i, row.length)) {
            latestFault = INDEX;
            return LOST;
        }
        return row.cells[i];
    }

    public int copy(int k, int i, int other, int j, int n) {
        latestFault = 0;
        if (!isSheet(k) || !isSheet(other)) {
            return UNKNOWN;
        }
        Row from = sheets[k];
        Row to = sheets[other];
        if (!from.isThere || !to.isThere) {
            return failed(NULL);
        }
        if (from.lane != to.lane) {
            return failed(CAST);
        }
        if (!from.spans(i, n) || !to.spans(j, n)) {
            return failed(INDEX);
        }
        System.arraycopy(from.cells, i, to.cells, j, n);
        return n;
    }

    public int tell(int a) {
        if (!realm.hasSubject(a)) {
            return UNKNOWN;
        }
        switch (realm.kindOf[a]) {
            case HOLY:
                return tellHoly(a);
            case MEEK:
                return tellMeek(a);
            default:
                return tellSubject(a);
        }
    }

    public int name(int a) {
        if (!realm.hasSubject(a)) {
            return UNKNOWN;
        }
        if (realm.kindOf[a] == HOLY) {
            leave(5);
            return 70;
        }
        leave(4);
        return a;
    }

    public int as(int a, int kind) {
        latestFault = 0;
        if (!realm.hasSubject(a)) {
            return UNKNOWN;
        }
        if (!isBelow(kind, KINDS)) {
            return OUTSIDE;
        }
        // Each kind is one of the kinds that stand ahead of it, too.
        return realm.kindOf[a] >= kind ? 1 : failed(CAST);
    }

    public int trace() {
        return traced;
    }

    public int fault() {
        return latestFault;
    }

    public int many(int what) {
        switch (what) {
            case 0:
                return realm.subjectCount;
            case 1:
                return realm.deedCount;
            case 2:
                return realm.allPapers();
            case 3:
                return readings.count;
            default:
                return OUTSIDE;
        }
    }

    private int tellSubject(int a) {
        leave(1);
        return realm.papers[a];
    }

    private int tellMeek(int a) {
        leave(2);
        return tellSubject(a) + 100;
    }

    private int tellHoly(int a) {
        leave(3);
        int asMeek = tellMeek(a);
        return asMeek + tellSubject(a);
    }

    private void leave(int body) {
        traced = 31 * traced + body;
    }

    private int failed(int found) {
        latestFault = found;
        return -10 - found;
    }

    private static int faultAs(Row row, int lane) {
        if (!row.isThere) {
            return NULL;
        }
        return row.lane == lane ? 0 : CAST;
    }

    private static boolean isSheet(int k) {
        return isBelow(k, SHEETS);
    }

    private static boolean isBelow(int v, int bound) {
        return v >= 0 && v < bound;
    }

    private static long inLeastTerms(long upper, long lower, int which) {
        long asked = which == 0 ? upper : lower;
        long common = commonDivisor(upper, lower);
        return common > 1 ? asked / common : asked;
    }

    private static long commonDivisor(long x, long y) {
        long larger = x;
        long smaller = y;
        // Each second step halves what is left, so 128 steps are enough for any two longs.
        for (int step = 0; step < 128 && smaller != 0; step++) {
            long rest = larger % smaller;
            larger = smaller;
            smaller = rest;
        }
        return larger;
    }

    /** What a SHEET has. Its cells are made once and used for each row that it gets. */
    private static final class Row {
        final int[] cells = new int[MOST_CELLS];
        boolean isThere;
        int lane;
        int length;

        void renew(int newLane, int newLength) {
            isThere = true;
            lane = newLane;
            length = newLength;
            for (int i = 0; i < MOST_CELLS; i++) {
                cells[i] = 0;
            }
        }

        int cut(int v) {
            switch (lane) {
                case BYTES:
                    return (byte) v;
                case SHORTS:
                    return (short) v;
                default:
                    return v;
            }
        }

        /** Written without i + n, which may wrap. */
        boolean spans(int i, int n) {
            return i >= 0 && i <= length && n >= 0 && n <= length - i;
        }
    }

    /** Cells that may be the TEXT of a KINGDOM. */
    private static final class Text {
        final Row row;
        final int from;
        final int size;
        int deeds;
        int subjects;

        Text(Row row, int from, int size) {
            this.row = row;
            this.from = from;
            this.size = size;
        }

        /**
         * Places are looked at one after another, and behind the last code there is none that fits:
         * so a TEXT that ends too soon has its FIRST FAULT at how many codes there are.
         */
        int firstFault() {
            if (code(0) != 'p') {
                return 0;
            }
            int at = 1;
            for (deeds = 0; deeds < MOST_DEEDS && code(at) == '/'; deeds++) {
                for (int q = 1; q <= 3; q++) {
                    if (!isDigit(at + q, '9')) {
                        return at + q;
                    }
                }
                at += 4;
            }
            if (deeds == 0) {
                return at;
            }
            for (subjects = 0; subjects < MOST_SUBJECTS && code(at) == ';'; subjects++) {
                if (kindAt(at + 1) == NONE) {
                    return at + 1;
                }
                if (!isDigit(at + 2, '3')) {
                    return at + 2;
                }
                at += 3;
            }
            return subjects > 0 && at == size ? TAKEN : at;
        }

        int digitOfDeed(int d, int what) {
            return code(4 * d + 2 + what) - '0';
        }

        int kindOfSubject(int a) {
            return kindAt(4 * deeds + 3 * a + 2);
        }

        int papersOfSubject(int a) {
            return code(4 * deeds + 3 * a + 3) - '0';
        }

        private int code(int place) {
            return isBelow(place, size) ? row.cells[from + place] : NONE;
        }

        private boolean isDigit(int place, int last) {
            int code = code(place);
            return code >= '0' && code <= last;
        }

        private int kindAt(int place) {
            switch (code(place)) {
                case 's':
                    return SUBJECT;
                case 'm':
                    return MEEK;
                case 'h':
                    return HOLY;
                default:
                    return NONE;
            }
        }
    }

    /** DEEDS and SUBJECTS; there is no KINGDOM as long as there are none. */
    private static final class Realm {
        final int[][] deeds = new int[MOST_DEEDS][3];
        final int[] kindOf = new int[MOST_SUBJECTS];
        final int[] papers = new int[MOST_SUBJECTS];
        int deedCount;
        int subjectCount;

        void found(Text text) {
            deedCount = text.deeds;
            subjectCount = text.subjects;
            for (int d = 0; d < deedCount; d++) {
                for (int what = 0; what < 3; what++) {
                    deeds[d][what] = text.digitOfDeed(d, what);
                }
            }
            for (int a = 0; a < subjectCount; a++) {
                kindOf[a] = text.kindOfSubject(a);
                papers[a] = text.papersOfSubject(a);
            }
        }

        boolean isThere() {
            return subjectCount > 0;
        }

        boolean hasDeed(int d) {
            return isBelow(d, deedCount);
        }

        boolean hasSubject(int a) {
            return isBelow(a, subjectCount);
        }

        int fearOf(int a, int d) {
            int plain = deeds[d][RISK] * deeds[d][HURT];
            switch (kindOf[a]) {
                case HOLY:
                    return 2 * (plain + 10);
                case MEEK:
                    return plain + 10;
                default:
                    return plain;
            }
        }

        int pardonedValue(int d) {
            return 10 * deeds[d][WORTH];
        }

        int unpardonedValue(int a, int d) {
            return pardonedValue(d) - fearOf(a, d);
        }

        boolean wouldDo(int a, int d) {
            return unpardonedValue(a, d) > 0;
        }

        int doneBy(int a) {
            int set = 0;
            for (int d = 0; d < deedCount; d++) {
                if (wouldDo(a, d)) {
                    set |= 1 << d;
                }
            }
            return set;
        }

        int allPapers() {
            int all = 0;
            for (int a = 0; a < subjectCount; a++) {
                all += papers[a];
            }
            return all;
        }
    }

    /** A YEAR, by papers of its own: those of the SUBJECTS stay as they are. */
    private static final class Year {
        final int[] left = new int[MOST_SUBJECTS];
        int values;
        int pardoned;
        int firstWrong;

        /** The cells must be SUBJECTS, DEEDS and ACTS. */
        void live(Realm realm, Row row, int from, int n) {
            values = 0;
            pardoned = 0;
            firstWrong = NONE;
            for (int a = 0; a < realm.subjectCount; a++) {
                left[a] = realm.papers[a];
            }
            for (int t = 0; t < n && firstWrong == NONE; t++) {
                int at = from + 3 * t;
                if (!goesOn(realm, row.cells[at], row.cells[at + 1], row.cells[at + 2])) {
                    firstWrong = t;
                }
            }
        }

        private boolean goesOn(Realm realm, int a, int d, int act) {
            if (act == PARDONED) {
                left[a]--;
                pardoned++;
                values += realm.pardonedValue(d);
                return left[a] >= 0;
            }
            if (act == UNPARDONED) {
                values += realm.unpardonedValue(a, d);
                return realm.wouldDo(a, d);
            }
            return true;
        }
    }

    /** HOPES of one SUBJECT, from the last DAY back. */
    private static final class Outlook {
        // By DAYS and PAPERS, times scales[DAYS]: so all of them are whole.
        final long[][] hopes = new long[MOST_DAYS + 1][MOST_PAPERS + 1];
        final long[] scales = new long[MOST_DAYS + 1];

        void lookAhead(Realm realm, int a, int n) {
            scales[0] = 1;
            for (int papers = 0; papers <= MOST_PAPERS; papers++) {
                hopes[0][papers] = 0;
            }
            for (int day = 1; day <= n; day++) {
                scales[day] = scales[day - 1] * realm.deedCount;
                for (int papers = 0; papers <= MOST_PAPERS; papers++) {
                    hopes[day][papers] = sumOfBest(realm, a, day - 1, papers);
                }
            }
        }

        private long sumOfBest(Realm realm, int a, int later, int papers) {
            long sum = 0;
            for (int d = 0; d < realm.deedCount; d++) {
                long most = byNone(realm, a, d, later, papers);
                if (papers > 0) {
                    most = Math.max(most, byPaper(realm, d, later, papers));
                }
                sum += most;
            }
            return sum;
        }

        /** HOPE, if the DEED is done pardoned and there are so many later DAYS. */
        long byPaper(Realm realm, int d, int later, int papers) {
            return realm.pardonedValue(d) * scales[later] + hopes[later][papers - 1];
        }

        /** HOPE, if the DEED is let be or done unpardoned, whichever is better. */
        long byNone(Realm realm, int a, int d, int later, int papers) {
            return Math.max(0, realm.unpardonedValue(a, d)) * scales[later] + hopes[later][papers];
        }
    }

    /** Who DOES what, as it was told. */
    private static final class Readings {
        final int[] subjects = new int[MOST_READINGS];
        final int[] deeds = new int[MOST_READINGS];
        final boolean[] done = new boolean[MOST_READINGS];
        int count;

        int note(int a, int d, boolean does) {
            subjects[count] = a;
            deeds[count] = d;
            done[count] = does;
            count++;
            return count - 1;
        }

        /** The numbers below the bound by which all READINGS are so, if they stand in place of row[at]. */
        int fitting(Realm realm, int[] row, int at, int bound) {
            int was = row[at];
            int set = 0;
            for (int v = 0; v < bound; v++) {
                row[at] = v;
                if (allAreSo(realm)) {
                    set |= 1 << v;
                }
            }
            row[at] = was;
            return set;
        }

        private boolean allAreSo(Realm realm) {
            for (int r = 0; r < count; r++) {
                if (realm.wouldDo(subjects[r], deeds[r]) != done[r]) {
                    return false;
                }
            }
            return true;
        }
    }
}
