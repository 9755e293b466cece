/** Counts answers that are not as due, and sets up kingdoms for the tests. */
final class Check {
    private int wrong;
    private int seen;

    void due(String call, long got, long want) {
        seen++;
        if (got != want) {
            wrong++;
            System.out.println(call + " answered " + got + ", due is " + want);
        }
    }

    void holds(String what, boolean so) {
        seen++;
        if (!so) {
            wrong++;
            System.out.println("not so: " + what);
        }
    }

    void finish() {
        System.out.println(seen + " answers, " + wrong + " not as due");
        if (wrong != 0 || seen == 0) {
            System.exit(1);
        }
    }

    /** Writes the text's codes to a new row of the sheet. */
    static void write(BlankPardons x, int sheet, int lane, String text) {
        x.sheet(sheet, lane, text.length());
        for (int i = 0; i < text.length(); i++) {
            x.put(sheet, i, text.charAt(i));
        }
    }

    static void row(BlankPardons x, int sheet, int lane, int... cells) {
        x.sheet(sheet, lane, cells.length);
        for (int i = 0; i < cells.length; i++) {
            x.put(sheet, i, cells[i]);
        }
    }

    /** What kingdom() answers to the text, by sheet 3, which has nothing afterwards. */
    static int found(BlankPardons x, String text) {
        write(x, 3, 0, text);
        int answer = x.kingdom(3, 0, 0, text.length());
        x.lose(3);
        return answer;
    }

    static BlankPardons in(String text) {
        BlankPardons x = new BlankPardons();
        if (found(x, text) < 1) {
            throw new IllegalArgumentException(text);
        }
        return x;
    }
}
