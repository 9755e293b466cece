import java.math.BigInteger;
import java.util.ArrayList;
import java.util.List;
import java.util.regex.Matcher;
import java.util.regex.Pattern;

/**
 * The document once more, by other means: real rows, real classes, the machine's own exceptions for the FAULTS,
 * a regular expression for TEXTS, fractions of big numbers for shares. Slow and wasteful, and only for tests.
 */
final class Model {
    static final long LOST = Long.MIN_VALUE;

    private static final Pattern TEXT = Pattern.compile("p(/[0-9]{3}){1,5}(;[smh][0-3]){1,4}");

    private interface Named {
        default int named(Model model, int number) {
            model.begin(4);
            return number;
        }
    }

    private static class Subject implements Named {
        int papers;

        int fear(int risk, int hurt) {
            return risk * hurt;
        }

        int tell(Model model) {
            return plainly(model);
        }

        final int plainly(Model model) {
            model.begin(1);
            return papers;
        }
    }

    private static class Meek extends Subject {
        @Override
        int fear(int risk, int hurt) {
            return super.fear(risk, hurt) + 10;
        }

        @Override
        int tell(Model model) {
            model.begin(2);
            return super.tell(model) + 100;
        }
    }

    private static class Holy extends Meek {
        @Override
        int fear(int risk, int hurt) {
            return 2 * super.fear(risk, hurt);
        }

        @Override
        int tell(Model model) {
            model.begin(3);
            return super.tell(model) + plainly(model);
        }

        @Override
        public int named(Model model, int number) {
            model.begin(5);
            return 70;
        }
    }

    private record Reading(int a, int d, boolean does) { }

    private record Share(BigInteger upper, BigInteger lower) implements Comparable<Share> {
        static Share of(long upper, long lower) {
            return new Share(BigInteger.valueOf(upper), BigInteger.valueOf(lower));
        }

        Share plus(Share other) {
            return new Share(upper.multiply(other.lower).add(other.upper.multiply(lower)), lower.multiply(other.lower))
                .least();
        }

        Share times(Share other) {
            return new Share(upper.multiply(other.upper), lower.multiply(other.lower)).least();
        }

        Share least() {
            BigInteger common = upper.gcd(lower);
            return new Share(upper.divide(common), lower.divide(common));
        }

        @Override
        public int compareTo(Share other) {
            return upper.multiply(other.lower).compareTo(other.upper.multiply(lower));
        }

        long part(int which) {
            return (which == 0 ? least().upper : least().lower).longValueExact();
        }
    }

    private final Object[] sheets = new Object[4];
    private List<int[]> deeds = new ArrayList<>();
    private List<Subject> subjects = new ArrayList<>();
    private List<Reading> readings = new ArrayList<>();
    private int trace;
    private int fault;

    private void begin(int body) {
        trace = 31 * trace + body;
    }

    private static Subject born(int kind, int papers) {
        Subject one = kind == 0 ? new Subject() : kind == 1 ? new Meek() : new Holy();
        one.papers = papers;
        return one;
    }

    private static int kind(Subject one) {
        return one instanceof Holy ? 2 : one instanceof Meek ? 1 : 0;
    }

    private static boolean in(int v, int from, int to) {
        return from <= v && v <= to;
    }

    private boolean isDeed(int d) {
        return in(d, 0, deeds.size() - 1);
    }

    private boolean isSubject(int a) {
        return in(a, 0, subjects.size() - 1);
    }

    private static int number(RuntimeException thrown) {
        if (thrown instanceof NullPointerException) {
            return 1;
        }
        if (thrown instanceof ClassCastException || thrown instanceof ArrayStoreException) {
            return 2;
        }
        if (thrown instanceof IndexOutOfBoundsException) {
            return 3;
        }
        if (thrown instanceof NegativeArraySizeException) {
            return 4;
        }
        throw thrown;
    }

    /** Cells of a row from i on, as the machine would take them. */
    private int[] taken(Object row, int lane, int i, int n) {
        if (lane == 0) {
            byte[] cells = (byte[]) row;
            byte[] to = cells.length < 0 ? null : new byte[n];
            System.arraycopy(cells, i, to, 0, n);
            int[] all = new int[n];
            for (int k = 0; k < n; k++) {
                all[k] = to[k];
            }
            return all;
        }
        if (lane == 1) {
            short[] cells = (short[]) row;
            short[] to = cells.length < 0 ? null : new short[n];
            System.arraycopy(cells, i, to, 0, n);
            int[] all = new int[n];
            for (int k = 0; k < n; k++) {
                all[k] = to[k];
            }
            return all;
        }
        int[] cells = (int[]) row;
        // A huge length is beyond any row; the machine should not be asked to make one.
        int[] to = cells.length < 0 ? null : new int[Math.min(n, 100)];
        System.arraycopy(cells, i, to, 0, Math.min(n, 100));
        return to;
    }

    int kingdom(int sheet, int lane, int i, int n) {
        fault = 0;
        if (!in(sheet, 0, 3)) {
            return -1;
        }
        if (!in(lane, 0, 2)) {
            return -2;
        }
        int[] codes;
        try {
            codes = taken(sheets[sheet], lane, i, Math.min(n, 100));
        } catch (RuntimeException thrown) {
            fault = number(thrown);
            return -10 - fault;
        }
        StringBuilder text = new StringBuilder();
        for (int code : codes) {
            text.append(code < 1 || code > 126 ? '?' : (char) code);
        }
        if (!TEXT.matcher(text).matches()) {
            return -100 - firstFault(text.toString());
        }
        deeds = new ArrayList<>();
        subjects = new ArrayList<>();
        readings = new ArrayList<>();
        String[] halves = text.toString().split(";", 2);
        for (String deed : halves[0].substring(2).split("/")) {
            deeds.add(new int[] {deed.charAt(0) - 48, deed.charAt(1) - 48, deed.charAt(2) - 48});
        }
        for (String one : halves[1].split(";")) {
            subjects.add(born("smh".indexOf(one.charAt(0)), one.charAt(1) - 48));
        }
        return subjects.size();
    }

    private static int firstFault(String text) {
        for (int k = 0; k < text.length(); k++) {
            Matcher start = TEXT.matcher(text.substring(0, k + 1));
            if (!start.matches() && !start.hitEnd()) {
                return k;
            }
        }
        return text.length();
    }

    int ofDeed(int d, int what) {
        return !isDeed(d) ? -1 : !in(what, 0, 2) ? -2 : deeds.get(d)[what];
    }

    private int value(Subject one, int d) {
        int[] deed = deeds.get(d);
        return 10 * deed[0] - one.fear(deed[1], deed[2]);
    }

    int ofSubject(int a, int what) {
        if (!isSubject(a)) {
            return -1;
        }
        if (!in(what, 0, 2)) {
            return -2;
        }
        Subject one = subjects.get(a);
        int set = 0;
        for (int d = 0; d < deeds.size(); d++) {
            set += value(one, d) > 0 ? 1 << d : 0;
        }
        return what == 0 ? kind(one) : what == 1 ? one.papers : set;
    }

    int fear(int a, int d) {
        return !isSubject(a) || !isDeed(d) ? -1 : subjects.get(a).fear(deeds.get(d)[1], deeds.get(d)[2]);
    }

    int alter(int d, int what, int v) {
        if (!isDeed(d)) {
            return -1;
        }
        if (!in(what, 0, 2) || !in(v, 0, 9)) {
            return -2;
        }
        int was = deeds.get(d)[what];
        deeds.get(d)[what] = v;
        return was;
    }

    int grant(int a, int v) {
        if (!isSubject(a)) {
            return -1;
        }
        if (!in(v, 0, 3)) {
            return -2;
        }
        int was = subjects.get(a).papers;
        subjects.get(a).papers = v;
        return was;
    }

    int year(int sheet, int lane, int i, int n, int what) {
        fault = 0;
        if (!in(sheet, 0, 3)) {
            return -1;
        }
        if (!in(lane, 0, 2) || !in(n, 0, 20) || !in(what, 0, 2) && !in(what, 10, 13)) {
            return -2;
        }
        if (subjects.isEmpty()) {
            return -3;
        }
        int[] cells;
        try {
            cells = taken(sheets[sheet], lane, i, 3 * n);
        } catch (RuntimeException thrown) {
            fault = number(thrown);
            return -10 - fault;
        }
        for (int k = 0; k < 3 * n; k += 3) {
            if (!isSubject(cells[k]) || !isDeed(cells[k + 1]) || !in(cells[k + 2], 0, 2)) {
                return -1;
            }
        }
        int values = 0;
        int pardoned = 0;
        List<Integer> left = new ArrayList<>();
        for (Subject one : subjects) {
            left.add(one.papers);
        }
        for (int k = 0; k < 3 * n; k += 3) {
            int a = cells[k];
            int bare = value(subjects.get(a), cells[k + 1]);
            if (cells[k + 2] == 1 && bare <= 0 || cells[k + 2] == 2 && left.get(a) == 0) {
                return what == 1 ? k / 3 : -100000 - k / 3;
            }
            if (cells[k + 2] == 1) {
                values += bare;
            }
            if (cells[k + 2] == 2) {
                values += 10 * deeds.get(cells[k + 1])[0];
                left.set(a, left.get(a) - 1);
                pardoned++;
            }
        }
        return what == 0 ? values : what == 1 ? -9 : what == 2 ? pardoned : isSubject(what - 10) ? left.get(what - 10) : -9;
    }

    private Share hoped(Subject one, int n, int papers) {
        Share all = Share.of(0, 1);
        for (int d = 0; d < deeds.size() && n > 0; d++) {
            Share most = withoutPaper(one, d, n, papers);
            if (papers > 0 && withPaper(one, d, n, papers).compareTo(most) > 0) {
                most = withPaper(one, d, n, papers);
            }
            all = all.plus(most);
        }
        return all.times(Share.of(1, deeds.size()));
    }

    // HOPES by days and papers of the subject that is asked for: a plain recursion would take too long.
    private final Share[][] kept = new Share[9][4];

    private Share known(Subject one, int n, int papers) {
        if (kept[n][papers] == null) {
            kept[n][papers] = hoped(one, n, papers);
        }
        return kept[n][papers];
    }

    private void forget() {
        for (Share[] row : kept) {
            java.util.Arrays.fill(row, null);
        }
    }

    private Share withPaper(Subject one, int d, int n, int papers) {
        return Share.of(10 * deeds.get(d)[0], 1).plus(known(one, n - 1, papers - 1));
    }

    private Share withoutPaper(Subject one, int d, int n, int papers) {
        return Share.of(Math.max(0, value(one, d)), 1).plus(known(one, n - 1, papers));
    }

    long hope(int a, int n, int papers, int which) {
        if (!isSubject(a) || !in(n, 0, 8) || !in(papers, 0, 3) || !in(which, 0, 1)) {
            return LOST;
        }
        forget();
        return known(subjects.get(a), n, papers).part(which);
    }

    int uses(int a, int n, int papers) {
        if (!isSubject(a)) {
            return -1;
        }
        if (!in(n, 1, 8) || !in(papers, 1, 3)) {
            return -2;
        }
        forget();
        Subject one = subjects.get(a);
        int set = 0;
        for (int d = 0; d < deeds.size(); d++) {
            set += withPaper(one, d, n, papers).compareTo(withoutPaper(one, d, n, papers)) > 0 ? 1 << d : 0;
        }
        return set;
    }

    int buyers(int price, int n) {
        if (!in(price, 0, 99) || !in(n, 0, 8)) {
            return -2;
        }
        if (subjects.isEmpty()) {
            return -3;
        }
        int set = 0;
        for (int a = 0; a < subjects.size(); a++) {
            forget();
            Share floor = known(subjects.get(a), n, 0).plus(Share.of(price, 1));
            set += known(subjects.get(a), n, 1).compareTo(floor) >= 0 ? 1 << a : 0;
        }
        return set;
    }

    int best(int n) {
        if (!in(n, 0, 8)) {
            return -2;
        }
        if (subjects.isEmpty()) {
            return -3;
        }
        if (buyers(1, n) == 0) {
            return -9;
        }
        int best = 99;
        for (int price = 99; price >= 1; price--) {
            if (price * Integer.bitCount(buyers(price, n)) >= best * Integer.bitCount(buyers(best, n))) {
                best = price;
            }
        }
        return best;
    }

    int reading(int a, int d, boolean does) {
        if (!isSubject(a) || !isDeed(d)) {
            return -1;
        }
        if (readings.size() == 8) {
            return -4;
        }
        readings.add(new Reading(a, d, does));
        return readings.size() - 1;
    }

    int back(int k) {
        if (!in(k, 0, readings.size())) {
            return -2;
        }
        readings = new ArrayList<>(readings.subList(0, readings.size() - k));
        return readings.size();
    }

    /** Whether all READINGS are so, if a number of a DEED is another (at -1: none is). */
    private boolean fits(int deed, int at, int v, int subject, int kind) {
        for (Reading one : readings) {
            int[] numbers = deeds.get(one.d).clone();
            if (one.d == deed) {
                numbers[at] = v;
            }
            Subject who = one.a == subject ? born(kind, 0) : subjects.get(one.a);
            if ((10 * numbers[0] > who.fear(numbers[1], numbers[2])) != one.does) {
                return false;
            }
        }
        return true;
    }

    int risks(int d) {
        return isDeed(d) ? numbers(d, 1) : -1;
    }

    int hurts(int d) {
        return isDeed(d) ? numbers(d, 2) : -1;
    }

    private int numbers(int d, int at) {
        int set = 0;
        for (int v = 0; v < 10; v++) {
            set += fits(d, at, v, -1, 0) ? 1 << v : 0;
        }
        return set;
    }

    int kinds(int a) {
        if (!isSubject(a)) {
            return -1;
        }
        int set = 0;
        for (int kind = 0; kind < 3; kind++) {
            set += fits(-1, 0, 0, a, kind) ? 1 << kind : 0;
        }
        return set;
    }

    long odds(int set, int n, int which) {
        if (subjects.isEmpty() || !in(set, 0, (1 << deeds.size()) - 1) || !in(n, 0, 3) || !in(which, 0, 1)) {
            return LOST;
        }
        Share all = Share.of(1, 1);
        for (int k = 0; k < n * deeds.size(); k++) {
            int d = k % deeds.size();
            all = (set >> d) % 2 == 0 ? all : all.times(Share.of(10 - deeds.get(d)[1], 10));
        }
        return all.part(which);
    }

    int sheet(int k, int lane, int n) {
        fault = 0;
        if (!in(k, 0, 3)) {
            return -1;
        }
        if (!in(lane, 0, 2) || n > 60) {
            return -2;
        }
        try {
            sheets[k] = lane == 0 ? new byte[n] : lane == 1 ? new short[n] : new int[n];
            return 1;
        } catch (NegativeArraySizeException thrown) {
            fault = number(thrown);
            return -10 - fault;
        }
    }

    int lose(int k) {
        if (!in(k, 0, 3)) {
            return -1;
        }
        int had = sheets[k] == null ? 0 : 1;
        sheets[k] = null;
        return had;
    }

    int put(int k, int i, int v) {
        fault = 0;
        if (!in(k, 0, 3)) {
            return -1;
        }
        try {
            if (sheets[k] instanceof byte[] cells) {
                cells[i] = (byte) v;
            } else if (sheets[k] instanceof short[] cells) {
                cells[i] = (short) v;
            } else {
                ((int[]) sheets[k])[i] = v;
            }
            return 1;
        } catch (RuntimeException thrown) {
            fault = number(thrown);
            return -10 - fault;
        }
    }

    long cell(int k, int i, int lane) {
        fault = 0;
        if (!in(k, 0, 3) || !in(lane, 0, 2)) {
            return LOST;
        }
        try {
            return lane == 0 ? ((byte[]) sheets[k])[i] : lane == 1 ? ((short[]) sheets[k])[i] : ((int[]) sheets[k])[i];
        } catch (RuntimeException thrown) {
            fault = number(thrown);
            return LOST;
        }
    }

    @SuppressWarnings("SuspiciousSystemArraycopy")
    int copy(int k, int i, int other, int j, int n) {
        fault = 0;
        if (!in(k, 0, 3) || !in(other, 0, 3)) {
            return -1;
        }
        try {
            System.arraycopy(sheets[k], i, sheets[other], j, n);
            return n;
        } catch (RuntimeException thrown) {
            fault = number(thrown);
            return -10 - fault;
        }
    }

    int tell(int a) {
        return isSubject(a) ? subjects.get(a).tell(this) : -1;
    }

    int name(int a) {
        return isSubject(a) ? subjects.get(a).named(this, a) : -1;
    }

    int as(int a, int kind) {
        fault = 0;
        if (!isSubject(a)) {
            return -1;
        }
        if (!in(kind, 0, 2)) {
            return -2;
        }
        try {
            Object one = subjects.get(a);
            Subject seen = kind == 0 ? (Subject) one : kind == 1 ? (Meek) one : (Holy) one;
            return seen == one ? 1 : 0;
        } catch (ClassCastException thrown) {
            fault = number(thrown);
            return -10 - fault;
        }
    }

    int trace() {
        return trace;
    }

    int fault() {
        return fault;
    }

    int many(int what) {
        int papers = 0;
        for (Subject one : subjects) {
            papers += one.papers;
        }
        return what == 0 ? subjects.size() : what == 1 ? deeds.size() : what == 2 ? papers
            : what == 3 ? readings.size() : -2;
    }
}
