import java.util.Random;

/** Many runs of calls by chance (the same each time): the class answers as the model does, and never throws. */
public final class RandomRunsTest {
    // What an object answers behind its 512th call is free.
    private static final int RUNS = 3000, CALLS = 512;
    private static final int[] ODD = {Integer.MIN_VALUE, Integer.MAX_VALUE, -1, -2, 60, 61, 62, 1 << 30, -(1 << 30)};

    private final Check check;
    private final Random chance;
    private final BlankPardons x = new BlankPardons();
    private final Model model = new Model();
    private int calls;

    private RandomRunsTest(Check check, long seed) {
        this.check = check;
        this.chance = new Random(seed);
    }

    public static void main(String[] args) {
        Check check = new Check();
        for (int run = 0; run < RUNS; run++) {
            new RandomRunsTest(check, run).go(run);
        }
        check.finish();
    }

    private void go(int run) {
        while (calls < CALLS) {
            if (chance.nextInt(40) == 0) {
                write(someText());
            } else if (chance.nextInt(40) == 0) {
                write(someYear());
            } else {
                anyCall(run);
            }
        }
        check.holds("run " + run + " has " + CALLS + " calls", calls == CALLS);
    }

    /** A number from 0 to most, mostly; now and then one beside or far off. */
    private int some(int most) {
        int dice = chance.nextInt(60);
        if (dice == 0) {
            return ODD[chance.nextInt(ODD.length)];
        }
        return dice < 3 ? chance.nextInt(2 * most + 8) - 4 : chance.nextInt(most + 1);
    }

    private int[] someText() {
        StringBuilder text = new StringBuilder("p");
        int deeds = 1 + chance.nextInt(chance.nextInt(10) == 0 ? 6 : 5);
        for (int d = 0; d < deeds; d++) {
            text.append('/').append(100 + chance.nextInt(900));
            text.setCharAt(text.length() - 3, (char) ('0' + chance.nextInt(10)));
        }
        int subjects = 1 + chance.nextInt(chance.nextInt(10) == 0 ? 5 : 4);
        for (int a = 0; a < subjects; a++) {
            text.append(';').append("smh".charAt(chance.nextInt(3))).append(chance.nextInt(4));
        }
        if (chance.nextInt(3) == 0) {
            spoil(text);
        }
        return text.chars().toArray();
    }

    private void spoil(StringBuilder text) {
        int at = chance.nextInt(text.length());
        switch (chance.nextInt(4)) {
            case 0 -> text.setLength(at);
            case 1 -> text.deleteCharAt(at);
            case 2 -> text.insert(at, "p/;smh0123459x".charAt(chance.nextInt(14)));
            default -> text.setCharAt(at, "p/;smh0123459x".charAt(chance.nextInt(14)));
        }
    }

    private int[] someYear() {
        int[] cells = new int[3 * chance.nextInt(13)];
        int subjects = Math.max(1, model.many(0));
        int deeds = Math.max(1, model.many(1));
        for (int k = 0; k < cells.length; k += 3) {
            cells[k] = chance.nextInt(subjects);
            cells[k + 1] = chance.nextInt(deeds);
            int bare = 10 * model.ofDeed(cells[k + 1], 0) - model.fear(cells[k], cells[k + 1]);
            int act = chance.nextInt(3);
            cells[k + 2] = act == 1 && bare <= 0 && chance.nextInt(8) != 0 ? 0 : act;
        }
        return cells;
    }

    /** Writes the cells to a sheet and uses them, as a text and as years, as far as there are calls left. */
    private void write(int[] cells) {
        int k = chance.nextInt(4);
        int lane = chance.nextInt(3);
        int from = chance.nextInt(3);
        int length = Math.min(60, cells.length + from + chance.nextInt(3));
        due("sheet", x.sheet(k, lane, length), model.sheet(k, lane, length));
        for (int i = 0; i < cells.length && calls < CALLS; i++) {
            due("put", x.put(k, from + i, cells[i]), model.put(k, from + i, cells[i]));
        }
        if (calls < CALLS) {
            due("kingdom", x.kingdom(k, lane, from, cells.length), model.kingdom(k, lane, from, cells.length));
        }
        for (int what = 0; what < 14 && calls < CALLS; what++) {
            int n = cells.length / 3 - chance.nextInt(2);
            due("year", x.year(k, lane, from, n, what), model.year(k, lane, from, n, what));
            thenFault("");
        }
    }

    /** One call each. */
    private void due(String call, long got, long want) {
        calls++;
        check.due(call, got, want);
    }

    private void thenFault(String at) {
        if (calls < CALLS) {
            due(at + "then fault", x.fault(), model.fault());
        }
    }

    private void anyCall(int run) {
        int a = some(3);
        int b = some(4);
        int c = some(3);
        int n = some(8);
        int w = some(2);
        int i = some(12);
        int j = some(12);
        int v = some(9);
        String at = "run " + run + ": ";
        switch (chance.nextInt(28)) {
            case 0 -> due(at + "kingdom", x.kingdom(a, w, i, j), model.kingdom(a, w, i, j));
            case 1 -> due(at + "ofDeed", x.ofDeed(b, w), model.ofDeed(b, w));
            case 2 -> due(at + "ofSubject", x.ofSubject(a, w), model.ofSubject(a, w));
            case 3 -> due(at + "fear", x.fear(a, b), model.fear(a, b));
            case 4 -> due(at + "alter", x.alter(b, w, v), model.alter(b, w, v));
            case 5 -> due(at + "grant", x.grant(a, c), model.grant(a, c));
            case 6 -> due(at + "year", x.year(a, w, i, c, j + 2), model.year(a, w, i, c, j + 2));
            case 7 -> due(at + "hope", x.hope(a, n, c, w), model.hope(a, n, c, w));
            case 8 -> due(at + "uses", x.uses(a, n, c), model.uses(a, n, c));
            case 9 -> due(at + "buyers", x.buyers(i * b, n), model.buyers(i * b, n));
            case 10 -> best(at, n);
            case 11 -> due(at + "reading", x.reading(a, b, v > 4), model.reading(a, b, v > 4));
            case 12 -> due(at + "back", x.back(w), model.back(w));
            case 13 -> due(at + "risks", x.risks(b), model.risks(b));
            case 14 -> due(at + "hurts", x.hurts(b), model.hurts(b));
            case 15 -> due(at + "kinds", x.kinds(a), model.kinds(a));
            case 16 -> due(at + "odds", x.odds(i + j, c, w), model.odds(i + j, c, w));
            case 17 -> due(at + "sheet", x.sheet(a, w, i), model.sheet(a, w, i));
            case 18 -> due(at + "lose", x.lose(a), model.lose(a));
            case 19 -> due(at + "put", x.put(a, i, v * 1000003), model.put(a, i, v * 1000003));
            case 20 -> due(at + "cell", x.cell(a, i, w), model.cell(a, i, w));
            case 21 -> due(at + "copy", x.copy(a, i, c, j, w), model.copy(a, i, c, j, w));
            case 22 -> due(at + "tell", x.tell(a), model.tell(a));
            case 23 -> due(at + "name", x.name(a), model.name(a));
            case 24 -> due(at + "as", x.as(a, w), model.as(a, w));
            case 25 -> due(at + "trace", x.trace(), model.trace());
            case 26 -> due(at + "fault", x.fault(), model.fault());
            default -> due(at + "many", x.many(b), model.many(b));
        }
        thenFault(at);
    }

    /** The model goes through all prices for this: not each time. */
    private void best(String at, int n) {
        if (chance.nextInt(20) == 0) {
            due(at + "best", x.best(n), model.best(n));
        }
    }
}
