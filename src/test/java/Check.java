import java.io.IOException;
import java.nio.file.Files;
import java.nio.file.Path;

/** Counts answers that are not as due, and sets up kingdoms for the tests. */
final class Check {
    private static final Path DOCUMENT = Path.of("../shared/DOC.md");

    private final String document = words();
    private String sentence = "";
    private int wrong;
    private int seen;

    /** The document's sentence that the next answers are due by: word for word, or the test itself is wrong. */
    void sentence(String words) {
        sentence = "\"" + words + "\": ";
        holds("the document says so", document.isEmpty() || document.contains(words));
    }

    void due(String call, long got, long want) {
        seen++;
        if (got != want) {
            wrong++;
            System.out.println(sentence + call + " answered " + got + ", due is " + want);
        }
    }

    void holds(String what, boolean so) {
        seen++;
        if (!so) {
            wrong++;
            System.out.println(sentence + "not so: " + what);
        }
    }

    void finish() {
        System.out.println(seen + " answers, " + wrong + " not as due");
        if (wrong != 0 || seen == 0) {
            System.exit(1);
        }
    }

    private static String words() {
        try {
            return Files.exists(DOCUMENT) ? Files.readString(DOCUMENT).replaceAll("\\s+", " ") : "";
        } catch (IOException unread) {
            throw new IllegalStateException(unread);
        }
    }

    /** Numbers that are none of from .. to: beside it, far off, and such as come into it if they are cut or wrap. */
    static int[] beyond(int from, int to) {
        return new int[] {from - 1, to + 1, Integer.MIN_VALUE, Integer.MAX_VALUE, from + 256, from + 65536,
            from + (1 << 30), from + Integer.MIN_VALUE, -1 - to};
    }

    /** Writes the text's codes to a new row of the sheet. */
    static void write(BlankPardons x, int sheet, int lane, String text) {
        x.sheet(sheet, lane, text.length());
        for (int i = 0; i < text.length(); i++) {
            x.put(sheet, i, text.charAt(i));
        }
    }

    static void row(BlankPardons x, int sheet, int lane, int... cells) {
        x.sheet(sheet, lane, cells.length);
        for (int i = 0; i < cells.length; i++) {
            x.put(sheet, i, cells[i]);
        }
    }

    /** What kingdom() answers to the text, by sheet 3, which has nothing afterwards. */
    static int found(BlankPardons x, String text) {
        write(x, 3, 0, text);
        int answer = x.kingdom(3, 0, 0, text.length());
        x.lose(3);
        return answer;
    }

    static BlankPardons in(String text) {
        BlankPardons x = new BlankPardons();
        if (found(x, text) < 1) {
            throw new IllegalArgumentException(text);
        }
        return x;
    }
}
