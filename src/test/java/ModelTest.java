import java.nio.charset.StandardCharsets;
import java.util.ArrayList;
import java.util.Arrays;
import java.util.List;
import java.util.NoSuchElementException;
import java.util.Random;

/**
 * Random FILES, tapes and calls, with a fixed seed: HideSets must answer as Model does. The first
 * argument, if there is one, is how many objects are tried, the second the first seed.
 */
public final class ModelTest {
    private static Random random;
    private static HideSets x;
    private static Model y;
    private static int wrong = 0;
    private static long seed;
    private static int calls;
    private static final List<String> LOG = new ArrayList<>();

    private static int below(int n) {
        return random.nextInt(n);
    }

    private static String any(String... of) {
        return of[below(of.length)];
    }

    private static void same(String call, long got, long want) {
        calls++;
        if (got != want) {
            wrong++;
            if (wrong == 1) {
                for (String s : LOG) {
                    System.out.println("    " + s);
                }
            }
            if (wrong <= 5) {
                System.out.println("seed " + seed + ": " + call + " answered " + got + ", the model " + want);
            }
        }
    }

    private static void tell(String s) {
        byte[] b = s.getBytes(StandardCharsets.ISO_8859_1);
        x.end(0);
        y.end(0);
        for (int i = 0; i < b.length; i += 20) {
            int[] n = new int[5];
            for (int k = 0; k < 20; k++) {
                n[k / 4] = n[k / 4] << 8 | (i + k < b.length ? b[i + k] & 255 : 0);
            }
            same("feed", x.feed(n[0], n[1], n[2], n[3], n[4]), y.feed(n[0], n[1], n[2], n[3], n[4]));
        }
        same("end", x.end(b.length) ? 1 : 0, y.end(b.length) ? 1 : 0);
        LOG.add("tape " + s.replace("\n", "\\n"));
    }

    // ---- what is told

    private static String name() {
        return any("a", "b", "c", "f", "g", "h", "k", "s", "t", "u", "x", "y", "ab", "f", "g", "_1");
    }

    private static String bit() {
        switch (below(14)) {
            case 0:
                return any("1", "2", "0", "12", "0x1F", "7z");
            case 1:
                return any("+", "-", "*", "<", "=", "!", "<<", "&&", "|", ">=", "?", ":", "~", "%", "/");
            case 2:
                return any("\"q\"", "\"\"", "\"a b\"", "\"p'\"");
            case 3:
                return ",";
            case 4:
                return below(3) == 0 ? any("##", "#", ")", "(") : "(";
            case 5:
            case 6:
            case 7:
                return any("f", "g", "h", "k") + any("", "", " ") + "(" + row(below(3)) + any(")", ")", ")", ",", "")
                        + any("", ")", "(" + row(1) + ")", "," + row(1) + ")");
            default:
                return name();
        }
    }

    private static String row(int n) {
        StringBuilder b = new StringBuilder();
        for (int i = 0; i < n; i++) {
            b.append(bit()).append(any(" ", " ", "", "  "));
        }
        return b.toString();
    }

    private static String body(String... names) {
        StringBuilder b = new StringBuilder();
        int n = below(8) == 0 ? below(22) : below(6);
        for (int i = 0; i < n; i++) {
            String p = names.length > 0 && below(3) > 0 ? any(names) : below(3) == 0 ? bit() : name();
            if (below(6) == 0 && names.length > 0) {
                p = any("#", "# ") + any(names);
            }
            b.append(p).append(any(" ", " ", "", " ## ", "##", " "));
        }
        if (below(6) > 0) {
            return b.toString().replaceAll("( *##)* *$", "");
        }
        return b.toString();
    }

    private static String define() {
        switch (below(9)) {
            case 0:
                return any("a", "b", "c", "ab", "g", "s") + " " + body();
            case 1:
                return any("f", "g") + "(x)" + any("", " ") + body("x");
            case 2:
                return any("f", "g", "h") + "(x,y) " + body("x", "y");
            case 3:
                return any("k", "h") + "() " + body();
            case 4:
                return name() + "(" + name() + any(",", ")", " ") + name() + any(")", "", ",") + body("x");
            case 5:
                return any("f", "g", "k") + "( x , y , a , b ) " + body("x", "y", "a", "b");
            case 6:
                return name() + below(20) + " " + below(9);
            default:
                return name() + " " + body();
        }
    }

    private static String sum(int deep) {
        switch (deep > 4 ? below(3) : below(16)) {
            case 0:
                return any("0", "1", "2", "3", "9223372036854775807", "0x10", "0xffffffffffffffff", "1u", "007");
            case 1:
                return name();
            case 2:
                return any("defined ", "defined(", "defined ( ") + name() + any("", ")", " )");
            case 3:
                return "(" + sum(deep + 1) + any(")", ")", ")", ")", ")", "", " 1)");
            case 4:
                return any("!", "~", "-", "+", "- -", "!!") + sum(deep + 1);
            case 5:
                return sum(deep + 1) + "?" + sum(deep + 1) + any(":", ":", ":", " ", ":", ":") + sum(deep + 1);
            case 6:
                return any("f", "g", "h") + "(" + sum(deep + 1) + ")";
            default:
                return sum(deep + 1) + any("+", "-", "*", "/", "%", "<<", ">>", "<", "<=", ">", ">=", "==", "!=",
                        "&", "^", "|", "&&", "||", " || ", " && ", "=", "") + sum(deep + 1);
        }
    }

    private static String directive() {
        String hash = any("#", "#", "#", " # ", "# ");
        switch (below(16)) {
            case 0:
            case 1:
            case 2:
            case 3:
            case 4:
                return hash + "define " + define();
            case 5:
                return hash + "undef " + name();
            case 6:
                return hash + "include " + any("1", "2", "3", "0", "1", "2", "3", "7", "x", "");
            case 7:
                return hash + "if " + sum(below(4));
            case 8:
                return hash + any("ifdef ", "ifndef ") + name();
            case 9:
                return hash + "elif " + sum(2);
            case 10:
                return hash + "else";
            case 11:
            case 12:
            case 13:
                return hash + "endif";
            case 14:
                return hash + any("", "", "foo", "5", "if", "ifdef", "define", "undef x y", "else x", "endif x", "include 1 1");
            default:
                return hash + any("#", "") + row(2);
        }
    }

    private static void group(List<String> lines, int deep) {
        lines.add("#" + any("if " + sum(3), "ifdef " + any("s", "t", "u", "a"), "ifndef " + any("s", "t", "u", "G")));
        some(lines, deep + 1);
        int n = below(3);
        for (int i = 0; i < n; i++) {
            lines.add("#elif " + any(sum(4), "defined s", "t", "u && s", "\""));
            some(lines, deep + 1);
        }
        if (below(2) == 0) {
            lines.add("#else");
            some(lines, deep + 1);
        }
        if (below(30) > 0) {
            lines.add("#endif");
        }
    }

    private static void some(List<String> lines, int deep) {
        int n = 1 + below(3);
        for (int i = 0; i < n; i++) {
            switch (below(12)) {
                case 0:
                case 1:
                    if (deep < 3) {
                        group(lines, deep);
                    }
                    break;
                case 2:
                    lines.add("#include " + any("1", "2", "3", "0"));
                    break;
                case 3:
                case 4:
                    lines.add("#define " + define());
                    break;
                case 5:
                    lines.add("#undef " + name());
                    break;
                case 6:
                    lines.add(any("", " ", "#", "#endif", "#else", " # ", "##", "a \"", "abcdefghijklmnopqrstuvwxyz01234"));
                    break;
                default:
                    lines.add(row(1 + below(4)));
                    break;
            }
        }
    }

    /** Bytes that hardly mean anything, now and then one that can't be. */
    private static String noise(int most) {
        StringBuilder b = new StringBuilder();
        String often = "##  \"(),,fgab1x0\n\n#";
        for (int n = below(most); n > 0; n--) {
            b.append(below(4) > 0 ? often.charAt(below(often.length())) : (char) (32 + below(95)));
            if (below(12) == 0) {
                b.append(any("#define ", "\n#if ", "\n#endif\n", "\n#else\n", "defined ", "\n#include ", "#ifndef ", "\n#elif "));
            }
        }
        return below(50) == 0 ? b.toString() + (char) below(256) : b.toString();
    }

    private static String file() {
        List<String> lines = new ArrayList<>();
        if (below(8) == 0) {
            String s = noise(120);
            return s.length() > 420 ? s.substring(0, 420) : s;
        }
        int style = below(10);
        if (style < 2) {
            int n = below(9);
            for (int i = 0; i < n; i++) {
                lines.add(below(2) == 0 ? directive() : row(below(5)));
            }
        } else if (style == 2) {
            for (int i = below(6); i > 0; i--) {
                lines.add("#define " + define());
            }
            lines.add(row(12));
            lines.add(row(12));
        } else if (style == 3) {
            lines.add(any("", "#ifndef G", " # ifndef  G ", "#ifndef G x"));
            lines.add("#ifndef " + any("G", "G", "s"));
            lines.add(any("#define G", "#define G 1", "x"));
            some(lines, 1);
            lines.add("#endif" + any("", "", " ", " x"));
            lines.add(any("", " ", "x"));
        } else if (style == 5) {
            for (int i = 2 + below(8); i > 0; i--) {
                lines.add(limit());
            }
        } else if (style == 4) {
            for (int i = 5 + below(20); i > 0; i--) {
                lines.add(any("#define f(x) x x x x x x", "#define a b b b b b b b b b b b b", "#define b f(c)",
                        "f(f(f(f(a))))", "f(1 2 3 4 5)", "a", "b b b b", "f(f(f(f(f(f(f(1)))))))", "#undef a"));
            }
        } else {
            int n = below(5);
            for (int i = 0; i < n; i++) {
                lines.add("#define " + define());
            }
            some(lines, 0);
            some(lines, 0);
        }
        String s = String.join("\n", lines) + any("", "\n");
        if (below(40) == 0) {
            s = s + s + s + s;
        }
        if (below(60) == 0) {
            s = s + any("\t", "\n\n\n\n\n\n\n\n\n\n\n\n\n\n\n\n\n\n\n\n\n\n\n\n\n\n\n\n\n\n\n\n\n\n\n\n\n\n\n\n", "\u00e9");
        }
        return s.length() > 440 ? s.substring(0, below(3) == 0 ? 420 : 400) : s;
    }

    private static String times(String s, int n) {
        return new String(new char[Math.max(n, 0)]).replace("\0", s);
    }

    /** LINES at the edges that the document names. */
    private static String limit() {
        int near = below(3) - 1;
        switch (below(16)) {
            case 0:
                int deep = any("5", "30", "60").length() == 1 ? 5 : 20 + below(100);
                return times("f(", deep) + any("1", "a", "1 2") + times(")", deep - below(2) * below(2));
            case 1:
                return "#define " + any("f(x) x", "f(x) x+x", "f(x) #x", "f(x) x##x", "f(x) x f", "f(x) (x)");
            case 2:
                return "#define " + any("g(x,y) x##y", "g(x,y) x ## y x", "g(x,y) #x y", "g(x,y) x#y ## ", "g(x,y) x ##y## y");
            case 3:
                return "g(" + times("p", 14 + below(3)) + "," + times("q", 14 + below(3)) + ")";
            case 4:
                return "f(" + times(any("z", "z ", "\"\" ", "+"), 8 + below(24)) + ")";
            case 5:
                return "#define b " + times(any("1 ", "a ", "#", "##", "a##"), 19 + near) + any("1", "a", "##", "1 1");
            case 6:
                StringBuilder many = new StringBuilder();
                for (int i = 0; i < 6; i++) {
                    many.append("#define m").append(below(20)).append("\n");
                }
                return many.toString();
            case 7:
                return "#include 0";
            case 8:
                return "#if " + times("(", 8 + near) + "1" + times(")", 8 + near) + "\n1\n#endif";
            case 9:
                return "#if " + times("1?", below(10)) + "0" + times(":2", below(10)) + "\n1\n#endif";
            case 10:
                return times("+ ", 60 + below(60));
            case 11:
                return times("a", 30 + near) + " \"" + times("a", 28 + near) + "\"";
            case 12:
                return "#define a " + any("b b b", "b", "f(b)", "f(", "f(b)f(b)", "a b a", "f (a) g(a,b)");
            case 13:
                return times("a ", 5 + below(40));
            case 14:
                return times("1:2", below(3)) + times("b", 1) + times("(x)", below(6));
            default:
                return any("#undef a", "#undef f", "#undef b", "#if 1", "#endif", "#else", "f(a)(a)(a)", "a(b)(f)");
        }
    }

    private static String longSum() {
        int n = 6 + below(5);
        switch (below(6)) {
            case 0:
                return times("(", n) + "1" + times(")", n);
            case 1:
                return times(any("-", "!", "~", "- "), n) + "1";
            case 2:
                return times("1?", n) + "1" + times(":1", n);
            case 3:
                return times("0?1:", n) + "1";
            case 4:
                return times("(-", n / 2) + "1?" + times("+", n / 3) + "2:3" + times(")", n / 2);
            default:
                return times("0?(1):-", n / 3) + times("(", n / 3) + "1" + times(")", n / 3);
        }
    }

    // ---- MACROS that name one another, with as many ARGUMENTS as they have PARAMETERS

    private static final String[] WOVEN = {"a", "b", "c", "d", "ab", "abc", "aa", "cd"};
    /** How many PARAMETERS each has; -1: it is without. */
    private static final int[] TAKES = new int[WOVEN.length];

    private static String wovenCall(int deep, String... names) {
        int m = below(WOVEN.length);
        if (TAKES[m] < 0 || below(8) == 0) {
            return WOVEN[m];
        }
        StringBuilder b = new StringBuilder(WOVEN[m]).append(any("", "", " ")).append('(');
        for (int i = 0; i < TAKES[m]; i++) {
            b.append(i > 0 ? "," : "").append(wovenRow(deep + 1, below(4), names));
        }
        return b.append(')').toString();
    }

    private static String wovenRow(int deep, int n, String... names) {
        StringBuilder b = new StringBuilder();
        for (int i = 0; i < n; i++) {
            int kind = below(20);
            b.append(any(" ", " ", "")).append(names.length > 0 && kind < 8 ? any(names)
                : deep < 4 && kind < 14 ? wovenCall(deep, names) : kind < 17 ? any(WOVEN) : any("1", "+", "<", "(1)", "q", "-", "\"s\""));
        }
        return b.toString();
    }

    private static String wovenBody(String... names) {
        StringBuilder b = new StringBuilder();
        for (int n = 1 + below(4); n > 0; n--) {
            int kind = below(10);
            if (kind < 3) {
                b.append(' ').append(wovenOperand(names));
                for (int i = below(3); i >= 0; i--) {
                    b.append(any("##", " ## ", " ##")).append(wovenOperand(names));
                }
                b.append(' ');
            } else if (kind == 3 && names.length > 0) {
                b.append(any("", " ")).append('#').append(any(names));
            } else {
                b.append(' ').append(wovenRow(2, 1, names));
            }
        }
        return b.toString();
    }

    private static String wovenOperand(String... names) {
        return names.length > 0 && below(10) < 7 ? any(names) : below(4) == 0 ? any("1", "q", "<") : any(WOVEN);
    }

    private static String wovenFile() {
        String[] all = {"x", "y", "z"};
        StringBuilder b = new StringBuilder();
        for (int m = 0; m < WOVEN.length; m++) {
            TAKES[m] = Math.min(below(6) - 1, 2 + below(2));
        }
        for (int m = 0; m < WOVEN.length; m++) {
            String[] names = Arrays.copyOf(all, Math.max(TAKES[m], 0));
            String line = "#define " + WOVEN[m] + (TAKES[m] < 0 ? " " : "(" + String.join(",", names) + ")") + wovenBody(names) + "\n";
            b.append(b.length() + line.length() <= 360 ? line : "");
        }
        String line = wovenRow(0, 2);
        return b.append(b.length() + line.length() <= 400 ? line : "").toString();
    }

    private static void tryWoven() {
        tell(wovenFile());
        LOG.add("file 0");
        same("file", x.file(0), y.file(0));
        LOG.add("run 0");
        same("run", x.run(0), y.run(0));
        compare(false);
        for (int n = 0; n < 12 && wrong == 0; n++) {
            String row = wovenRow(0, 1 + below(3));
            tell(row.length() > 440 ? "a" : row);
            LOG.add("expand");
            same("expand()", x.expand(), y.expand());
            compare(false);
        }
    }

    // ---- what is asked

    private static void sameToken(int k, int what) {
        long got;
        long want;
        try {
            got = x.token(k, what);
        } catch (NoSuchElementException e) {
            got = Long.MIN_VALUE;
        }
        try {
            want = y.token(k, what);
        } catch (NoSuchElementException e) {
            want = Long.MIN_VALUE;
        }
        same("token(" + k + ", " + what + ")", got, want);
    }

    private static void sameMacro(int m, int what) {
        long got;
        long want;
        try {
            got = x.macro(m, what);
        } catch (NoSuchElementException e) {
            got = Long.MIN_VALUE;
        }
        try {
            want = y.macro(m, what);
        } catch (NoSuchElementException e) {
            want = Long.MIN_VALUE;
        }
        same("macro(" + m + ", " + what + ")", got, want);
    }

    private static void sameValue() {
        long got;
        long want;
        try {
            got = x.value();
        } catch (NoSuchElementException e) {
            got = Long.MIN_VALUE + 77;
        }
        try {
            want = y.value();
        } catch (NoSuchElementException e) {
            want = Long.MIN_VALUE + 77;
        }
        same("value()", got, want);
    }

    private static void compare(boolean deep) {
        for (int i = -1; i < 11; i++) {
            same("now(" + i + ")", x.now(i), y.now(i));
            same("count(" + i + ")", x.count(i), y.count(i));
            same("fault(" + i + ")", x.fault(i), y.fault(i));
        }
        int many = 0;
        boolean more = true;
        for (int k = 0; more; k++) {
            try {
                y.token(k, 0);
                many++;
            } catch (NoSuchElementException e) {
                more = false;
            }
        }
        for (int k = -1; k <= many; k++) {
            for (int what = -1; what < 8; what++) {
                sameToken(k, what);
            }
            for (int i = -1; i < 32; i++) {
                same("tokenAt(" + k + ", " + i + ")", x.tokenAt(k, i), y.tokenAt(k, i));
            }
        }
        for (int m = -1; m < 14; m++) {
            for (int what = -1; what < 7; what++) {
                sameMacro(m, what);
            }
            for (int i = -1; i < 5; i++) {
                same("macroAt(" + m + ", " + i + ")", x.macroAt(m, i), y.macroAt(m, i));
            }
        }
        for (int f = -1; f < 5; f++) {
            same("lines(" + f + ")", x.lines(f), y.lines(f));
            same("guard(" + f + ")", x.guard(f), y.guard(f));
            same("guardAt(0)", x.guardAt(0), y.guardAt(0));
            same("guardAt(1)", x.guardAt(1), y.guardAt(1));
            for (int l = -1; l < 42; l++) {
                same("passed(" + f + ", " + l + ")", x.passed(f, l), y.passed(f, l));
                same("nextOf(" + f + ", " + l + ")", x.nextOf(f, l), y.nextOf(f, l));
            }
        }
        for (int k = -1; deep && k < 5; k++) {
            same("outcomes(" + k + ")", x.outcomes(k), y.outcomes(k));
            same("depends(" + k + ")", x.depends(k), y.depends(k));
            for (int s = -1; s < 9; s++) {
                same("like(" + k + ", " + s + ")", x.like(k, s), y.like(k, s));
            }
            for (int n = 0; n < 6; n++) {
                int f = below(6) - 1;
                int l = below(14) - 1;
                same("presence(" + k + ", " + f + ", " + l + ")", x.presence(k, f, l), y.presence(k, f, l));
            }
        }
    }

    private static void doCall() {
        int k = below(12) == 0 ? below(6) - 1 : below(4);
        int l = below(10) - 1;
        switch (below(14)) {
            case 0:
            case 1:
            case 2:
                tell(file());
                LOG.add("file " + k);
                same("file(" + k + ")", x.file(k), y.file(k));
                break;
            case 3:
                tell(any("s", "s t", "s t u", " t  s ", "", "s s", "s t u x", "defined", "s\n", "1", "a+", "u t s",
                        "abcdefghijklmnopqrstuvwxyz01234", "abcdefghijklmnopqrstuvwxyz0123"));
                LOG.add("switches");
                same("switches()", x.switches(), y.switches());
                break;
            case 4:
                int s = below(10) - 1;
                LOG.add("set " + s);
                same("set(" + s + ")", x.set(s), y.set(s));
                break;
            case 5:
            case 6:
                LOG.add("run " + k);
                same("run(" + k + ")", x.run(k), y.run(k));
                break;
            case 7:
            case 8:
                tell(below(30) == 0 ? row(3) + any("\n", "\u00ff", "\u0007")
                        : below(8) == 0 ? noise(30).replace("\n", " ") : row(1 + below(6)));
                LOG.add("expand");
                same("expand()", x.expand(), y.expand());
                break;
            case 9:
            case 10:
                String e = below(5) == 0 ? longSum() : below(8) == 0 ? noise(12).replace("\n", "+") : sum(0);
                tell(e.length() > 440 ? "1" : e);
                LOG.add("value");
                sameValue();
                break;
            case 11:
                tell(below(3) == 0 ? directive() : row(3));
                LOG.add("edit " + k + " " + l);
                same("edit(" + k + ", " + l + ")", x.edit(k, l), y.edit(k, l));
                break;
            case 12:
                LOG.add("drop " + k + " " + l);
                same("drop(" + k + ", " + l + ")", x.drop(k, l), y.drop(k, l));
                break;
            default:
                int i = below(4) - 1;
                if (below(2) == 0) {
                    LOG.add("image " + i);
                    same("image(" + i + ")", x.image(i) ? 1 : 0, y.image(i) ? 1 : 0);
                } else {
                    LOG.add("restore " + i);
                    same("restore(" + i + ")", x.restore(i) ? 1 : 0, y.restore(i) ? 1 : 0);
                }
                break;
        }
    }

    private static void begin() {
        x = new HideSets();
        y = new Model();
        LOG.clear();
    }

    private static void tryMixed(int[] kinds) {
        begin();
        for (int k = 0; k < 4; k++) {
            tell(file());
            LOG.add("file " + k);
            same("file", x.file(k), y.file(k));
        }
        tell(any("s", "s t", "s t u", ""));
        LOG.add("switches");
        same("switches", x.switches(), y.switches());
        for (int n = 0; n < 25 && wrong == 0; n++) {
            doCall();
            compare(n % 8 == 0);
            kinds[x.fault(0)]++;
        }
    }

    public static void main(String[] args) {
        int objects = args.length > 0 ? Integer.parseInt(args[0]) : 250;
        long first = args.length > 1 ? Long.parseLong(args[1]) : 1;
        int[] kinds = new int[12];
        for (seed = first; seed < first + objects && wrong == 0; seed++) {
            random = new Random(seed);
            tryMixed(kinds);
            if (wrong == 0) {
                begin();
                tryWoven();
                kinds[x.fault(0)]++;
            }
        }
        StringBuilder met = new StringBuilder("faults met:");
        for (int i = 0; i < kinds.length; i++) {
            met.append(' ').append(i).append('=').append(kinds[i]);
        }
        System.out.println(met);
        System.out.println(calls + " answers compared, " + wrong + " unlike");
        if (wrong != 0) {
            System.exit(1);
        }
    }
}
