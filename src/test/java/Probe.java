import java.nio.charset.StandardCharsets;
import java.util.NoSuchElementException;

/** What the tests have in common: tapes are told, answers read, those that are not due printed. */
class Probe {
    static final int THREW = Integer.MIN_VALUE;
    private static int wrong = 0;
    private static int checks = 0;
    private static int sentences = 0;
    private static int checksBefore = 0;
    private static String sentence = "";

    // ---- what is due

    /** The sentence of the document that the checks behind this one are of. */
    static void sentence(String words) {
        closeSentence();
        sentence = words;
        sentences++;
    }

    /** A sentence without a check would look like one that holds. */
    private static void closeSentence() {
        if (!sentence.isEmpty() && checks == checksBefore) {
            wrong++;
            System.out.println("no check of: " + sentence);
        }
        checksBefore = checks;
        sentence = "";
    }

    static void due(String what, long got, long want) {
        checks++;
        if (got != want) {
            wrong++;
            System.out.println(sentence + ": " + what + " answered " + got + ", due is " + want);
        }
    }

    static void due(String what, boolean got, boolean want) {
        due(what, got ? 1 : 0, want ? 1 : 0);
    }

    static void due(String what, String got, String want) {
        checks++;
        if (!got.equals(want)) {
            wrong++;
            System.out.println(sentence + ": " + what + " answered [" + got + "], due is [" + want + "]");
        }
    }

    /** Ends the test: with exit code 1, if something was not as due. */
    static void close(String of) {
        closeSentence();
        String told = sentences > 0 ? sentences + " sentences, " : "";
        System.out.println(of + ": " + told + checks + " checks, " + wrong + " wrong");
        if (wrong != 0) {
            System.exit(1);
        }
    }

    // ---- what is told

    static HideSets tell(HideSets x, String s) {
        byte[] b = s.getBytes(StandardCharsets.ISO_8859_1);
        x.end(0);
        for (int i = 0; i < b.length; i += 20) {
            int[] n = new int[5];
            for (int k = 0; k < 20; k++) {
                n[k / 4] = n[k / 4] << 8 | (i + k < b.length ? b[i + k] & 255 : 0);
            }
            x.feed(n[0], n[1], n[2], n[3], n[4]);
        }
        x.end(b.length);
        return x;
    }

    static int file(HideSets x, int k, String... lines) {
        return tell(x, String.join("\n", lines)).file(k);
    }

    static int switches(HideSets x, String s) {
        return tell(x, s).switches();
    }

    static int expand(HideSets x, String s) {
        return tell(x, s).expand();
    }

    static int edit(HideSets x, int f, int l, String s) {
        return tell(x, s).edit(f, l);
    }

    /** A new object with FILE 0. */
    static HideSets with(String... lines) {
        HideSets x = new HideSets();
        file(x, 0, lines);
        return x;
    }

    /** One that has RUN it. */
    static HideSets ran(String... lines) {
        HideSets x = with(lines);
        x.run(0);
        return x;
    }

    static String times(String s, int n) {
        StringBuilder b = new StringBuilder();
        for (int i = 0; i < n; i++) {
            b.append(s);
        }
        return b.toString();
    }

    // ---- what is asked

    static int token(HideSets x, int k, int what) {
        try {
            return x.token(k, what);
        } catch (NoSuchElementException e) {
            return THREW;
        }
    }

    static int macro(HideSets x, int m, int what) {
        try {
            return x.macro(m, what);
        } catch (NoSuchElementException e) {
            return THREW;
        }
    }

    /** The worth of an E, or "kind@place" of its FAULT. */
    static String worth(HideSets x, String e) {
        try {
            return "" + tell(x, e).value();
        } catch (NoSuchElementException n) {
            return x.fault(0) + "@" + x.fault(3);
        }
    }

    /** That of an object without MACROS. */
    static String worth(String e) {
        return worth(new HideSets(), e);
    }

    static String word(HideSets x, int k) {
        StringBuilder b = new StringBuilder();
        for (int i = 0; x.tokenAt(k, i) != HideSets.NONE; i++) {
            b.append((char) x.tokenAt(k, i));
        }
        return b.toString();
    }

    /** All TOKENS, a blank ahead of those that have a BLANK, else a dot between two. */
    static String all(HideSets x) {
        StringBuilder b = new StringBuilder();
        for (int k = 0; token(x, k, 0) != THREW; k++) {
            b.append(x.token(k, 6) == 1 ? " " : k > 0 ? "." : "").append(word(x, k));
        }
        return b.toString();
    }

    /** The TOKENS that a RUN of these LINES brings, or its FAULT. */
    static String allOf(String... lines) {
        HideSets x = with(lines);
        return x.run(0) < 0 ? bad(x) : all(x);
    }

    /** The TOKENS of a LINE as they are told apart, or its FAULT. */
    static String apart(String line) {
        HideSets x = new HideSets();
        return expand(x, line) < 0 ? bad(x) : all(x);
    }

    /** One number of each TOKEN. */
    static String each(HideSets x, int what) {
        StringBuilder b = new StringBuilder();
        for (int k = 0; token(x, k, 0) != THREW; k++) {
            b.append(k > 0 ? " " : "").append(x.token(k, what));
        }
        return b.toString();
    }

    static String hides(HideSets x) {
        return each(x, 5);
    }

    static String places(HideSets x) {
        return each(x, 4);
    }

    /** The latest FAULT: kind, FILE, LINE, place. */
    static String bad(HideSets x) {
        return x.fault(0) + " " + x.fault(1) + " " + x.fault(2) + " " + x.fault(3);
    }

    /** The FAULT of a RUN of these LINES. */
    static String badOf(String... lines) {
        return bad(ran(lines));
    }

    static String nows(HideSets x) {
        StringBuilder b = new StringBuilder();
        for (int i = 0; i < 10; i++) {
            b.append(i > 0 ? " " : "").append(x.now(i));
        }
        return b.toString();
    }

    /** passed() of all LINES of a FILE. */
    static String passes(HideSets x, int f) {
        StringBuilder b = new StringBuilder();
        for (int l = 0; l < x.lines(f); l++) {
            b.append(l > 0 ? " " : "").append(x.passed(f, l));
        }
        return b.toString();
    }

    static String nexts(HideSets x, int f) {
        StringBuilder b = new StringBuilder();
        for (int l = 0; l < x.lines(f); l++) {
            b.append(l > 0 ? " " : "").append(x.nextOf(f, l));
        }
        return b.toString();
    }

    static String macroName(HideSets x, int m) {
        StringBuilder b = new StringBuilder();
        for (int i = 0; x.macroAt(m, i) != HideSets.NONE; i++) {
            b.append((char) x.macroAt(m, i));
        }
        return b.toString();
    }

    static String guardName(HideSets x) {
        StringBuilder b = new StringBuilder();
        for (int i = 0; x.guardAt(i) != HideSets.NONE; i++) {
            b.append((char) x.guardAt(i));
        }
        return b.toString();
    }
}
