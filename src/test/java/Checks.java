import java.io.IOException;
import java.nio.charset.StandardCharsets;
import java.nio.file.Files;
import java.nio.file.Path;

/** Counts answers that are not as due; each test's main ends with it. */
final class Checks {
    static final int NONE = -1000000, BAD = -1000001, STATE = -1000002, FULL = -1000003;
    static final int NULL = -1000011, PLACE = -1000012, KIND = -1000013, SIZE = -1000014, STORE = -1000015;

    private static final Path DOCUMENT = Path.of("../shared/DOC.md");

    private final String name;
    private String document = null;
    private String sentence = "";
    private int made = 0;
    private int wrong = 0;

    Checks(String name) {
        this.name = name;
    }

    void due(String what, long got, long want) {
        made++;
        if (got != want) {
            wrong++;
            System.out.println(name + ": " + sentence + what + " answered " + got + ", due is " + want);
        }
    }

    /** The sentence of the document, word by word, that the checks behind this call are of. */
    void says(String words) {
        if (document == null) {
            document = readDocument();
        }
        sentence = "";
        holds("'" + words + "' is in the document", document.isEmpty() || document.contains(words));
        sentence = "'" + words + "': ";
    }

    // a checkout may lie where no document is: then the words are taken as they are quoted
    private static String readDocument() {
        try {
            return Files.readString(DOCUMENT, StandardCharsets.UTF_8).replaceAll("\\s+", " ");
        } catch (IOException e) {
            return "";
        }
    }

    void holds(String what, boolean is) {
        due(what, is ? 1 : 0, 1);
    }

    void end() {
        System.out.println(name + ": " + made + " checks, " + wrong + " wrong");
        if (wrong != 0 || made == 0) {
            System.exit(1);
        }
    }

    /** Puts a text on the tape, eight bytes a call. */
    static int feed(YoungerBack x, String text) {
        byte[] bytes = text.getBytes(StandardCharsets.ISO_8859_1);
        int answer = x.count(6);
        for (int at = 0; at < bytes.length; at += 8) {
            int n = Math.min(8, bytes.length - at);
            long w = 0;
            for (int k = 0; k < n; k++) {
                w = w << 8 | bytes[at + k] & 255;
            }
            answer = x.feed(w, n);
        }
        return answer;
    }

    static int read(YoungerBack x, String text) {
        feed(x, text);
        return x.league();
    }

    static YoungerBack with(String text) {
        YoungerBack x = new YoungerBack();
        int people = read(x, text);
        if (people < 0) {
            throw new IllegalStateException(text + " answered " + people);
        }
        return x;
    }

    /** A ROW of ints that holds these numbers. */
    static void rowOf(YoungerBack x, int row, int... values) {
        x.row(row, 2, values.length);
        for (int i = 0; i < values.length; i++) {
            x.set(row, i, values[i]);
        }
    }

    /** HARBOUR, CLOCK, AGE, LAG, OWED by the shore's clock, OWED by his own. */
    void person(YoungerBack x, int person, int... want) {
        for (int what = 0; what < want.length; what++) {
            due("person(" + person + ", " + what + ")", x.person(person, what), want[what]);
        }
    }

    /** THE TRACE: these numbers, and NONE behind them. */
    void trace(YoungerBack x, int... want) {
        for (int i = 0; i < want.length; i++) {
            due("trace(" + i + ")", x.trace(i), want[i]);
        }
        due("trace behind its end", x.trace(want.length), NONE);
    }
}
