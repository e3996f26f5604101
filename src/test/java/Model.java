import java.util.ArrayList;
import java.util.Arrays;
import java.util.HashSet;
import java.util.LinkedHashMap;
import java.util.List;
import java.util.Map;
import java.util.NoSuchElementException;
import java.util.Set;

/**
 * The document told a second time, as plainly as the Java library allows: lists that are copied,
 * recursion, a tree for E, exceptions for FAULTS. ModelTest compares HideSets with it.
 */
final class Model {
    static final class Tok {
        int kind;
        String s;
        int file = -1;
        int line = -1;
        int place;
        Set<Integer> hide = new HashSet<>();
        boolean blank;

        Tok copy() {
            Tok t = new Tok();
            t.kind = kind;
            t.s = s;
            t.file = file;
            t.line = line;
            t.place = place;
            t.hide = new HashSet<>(hide);
            t.blank = blank;
            return t;
        }

        boolean is(String text) {
            return s.equals(text);
        }
    }

    static final class Bad extends RuntimeException {
        final int kind;
        final int file;
        final int line;
        final int place;

        Bad(int kind, int file, int line, int place) {
            super(null, null, false, false);
            this.kind = kind;
            this.file = file;
            this.line = line;
            this.place = place;
        }

        Bad(int kind, Tok t) {
            this(kind, t.file, t.line, t.place);
        }
    }

    static final class Mac {
        String name;
        boolean defined;
        List<String> params;
        List<Tok> body = new ArrayList<>();
        int file = -1;
        int line = -1;
        int used;
    }

    /** Everything that a RUN leaves. */
    final class Ran {
        final List<Mac> macs = new ArrayList<>();
        final List<Tok> out = new ArrayList<>();
        final int[] now = new int[10];
        final Map<String, Integer> passed = new LinkedHashMap<>();
        Bad bad;
        int expansions;
        int begun;
        boolean counting = true;

        Mac find(String name) {
            for (Mac m : macs) {
                if (m.name.equals(name)) {
                    return m;
                }
            }
            return null;
        }

        boolean isMacro(String name) {
            Mac m = find(name);
            return m != null && m.defined;
        }

        String outcome() {
            StringBuilder b = new StringBuilder();
            for (Tok t : out) {
                b.append(t.s).append('\n');
            }
            if (bad != null) {
                b.append("\u0000").append(bad.kind).append(' ').append(bad.file).append(' ')
                        .append(bad.line).append(' ').append(bad.place);
            }
            return b.toString();
        }
    }

    private byte[] tape = new byte[0];
    private List<List<String>> files = new ArrayList<>(Arrays.asList(null, null, null, null));
    private List<String> switches = new ArrayList<>();
    private int setting;
    private final Object[][] images = new Object[2][];
    private Ran ran = new Ran();
    private List<Tok> came = new ArrayList<>();
    private Bad bad;
    private String guardName = "";

    // ---- bytes and TOKENS

    private static boolean letter(char c) {
        return Character.toString(c).matches("[A-Za-z_]");
    }

    private static boolean wordly(char c) {
        return c >= 'a' && c <= 'z' || c >= 'A' && c <= 'Z' || c >= '0' && c <= '9' || c == '_';
    }

    private static final List<String> PAIRS =
            Arrays.asList("##", "==", "!=", "<=", ">=", "&&", "||", "<<", ">>");

    /** The TOKEN at the front of a text, "" if there is none. */
    private static String front(String s) {
        char c = s.charAt(0);
        if (wordly(c)) {
            int n = 1;
            while (n < s.length() && wordly(s.charAt(n))) {
                n++;
            }
            return s.substring(0, n);
        }
        if (c == '"') {
            int n = s.indexOf('"', 1);
            return n < 0 ? "" : s.substring(0, n + 1);
        }
        if (s.length() > 1 && PAIRS.contains(s.substring(0, 2))) {
            return s.substring(0, 2);
        }
        return s.substring(0, 1);
    }

    private static int kind(String s) {
        char c = s.charAt(0);
        if (c >= '0' && c <= '9') {
            return 1;
        }
        return wordly(c) ? 0 : c == '"' ? 2 : 3;
    }

    private static List<Tok> lex(String s, int file, int line) {
        List<Tok> row = new ArrayList<>();
        int i = 0;
        while (i < s.length()) {
            if (s.charAt(i) == ' ') {
                i++;
                continue;
            }
            String f = front(s.substring(i));
            if (f.isEmpty() || f.length() > 30) {
                throw new Bad(1, file, line, i);
            }
            Tok t = new Tok();
            t.kind = kind(f);
            t.s = f;
            t.file = file;
            t.line = line;
            t.place = i;
            t.blank = i > 0 && s.charAt(i - 1) == ' ';
            row.add(t);
            i += f.length();
        }
        return row;
    }

    /** if, elif, else, endif or "" for a LINE looked at as a skipped one is. */
    private static String groupWord(String s) {
        java.util.regex.Matcher m =
                java.util.regex.Pattern.compile("^ *#(?!#) *([A-Za-z_][A-Za-z0-9_]*).*$").matcher(s);
        if (!m.matches()) {
            return "";
        }
        switch (m.group(1)) {
            case "if":
            case "ifdef":
            case "ifndef":
                return "if";
            case "elif":
            case "else":
            case "endif":
                return m.group(1);
            default:
                return "";
        }
    }

    // ---- EXPANDING

    private List<Tok> expandRow(Ran r, List<Tok> in) {
        List<Tok> out = new ArrayList<>();
        List<Tok> rest = new ArrayList<>(in);
        while (!rest.isEmpty()) {
            Tok t = rest.get(0);
            Mac m = t.kind == 0 ? r.find(t.s) : null;
            int number = r.macs.indexOf(m);
            if (m == null || !m.defined || t.hide.contains(number)) {
                out.add(t);
                rest = rest.subList(1, rest.size());
                continue;
            }
            Set<Integer> h = new HashSet<>(t.hide);
            List<List<Tok>> args = new ArrayList<>();
            int after = 1;
            if (m.params != null) {
                if (rest.size() < 2 || !rest.get(1).is("(")) {
                    out.add(t);
                    rest = rest.subList(1, rest.size());
                    continue;
                }
                int deep = 0;
                int close = -1;
                List<Tok> arg = new ArrayList<>();
                for (int i = 1; i < rest.size() && close < 0; i++) {
                    Tok u = rest.get(i);
                    if (u.is("(")) {
                        deep++;
                    }
                    if (u.is(")")) {
                        deep--;
                    }
                    if (deep == 0) {
                        close = i;
                        args.add(arg);
                    } else if (deep == 1 && u.is(",")) {
                        args.add(arg);
                        arg = new ArrayList<>();
                    } else if (i > 1) {
                        arg.add(u);
                    }
                }
                if (close < 0) {
                    throw new Bad(3, t);
                }
                if (m.params.isEmpty() ? close != 2 : args.size() != m.params.size()) {
                    throw new Bad(4, t);
                }
                h.retainAll(rest.get(close).hide);
                after = close + 1;
            }
            h.add(number);
            if (r.expansions >= 100) {
                throw new Bad(7, t);
            }
            r.expansions++;
            if (r.counting) {
                r.now[6]++;
                m.used++;
            }
            List<Tok> next = replacement(r, t, m, args, h);
            next.addAll(rest.subList(after, rest.size()));
            rest = next;
        }
        return out;
    }

    /** Rows between the ## of a BODY are lists; an operand without TOKENS is an empty list. */
    private List<Tok> replacement(Ran r, Tok name, Mac m, List<List<Tok>> args, Set<Integer> h) {
        List<List<Tok>> operands = new ArrayList<>();
        List<Boolean> glued = new ArrayList<>();
        boolean glue = false;
        for (int i = 0; i < m.body.size(); i++) {
            Tok b = m.body.get(i);
            if (b.is("##")) {
                glue = true;
                continue;
            }
            List<Tok> part = new ArrayList<>();
            int p = m.params == null ? -1 : m.params.indexOf(b.s);
            if (m.params != null && b.is("#")) {
                i++;
                part.add(stringOf(r, name, b, args.get(m.params.indexOf(m.body.get(i).s))));
            } else if (p >= 0) {
                boolean beside = glue || i + 1 < m.body.size() && m.body.get(i + 1).is("##");
                List<Tok> given = beside ? args.get(p) : expandRow(r, args.get(p));
                for (Tok t : given) {
                    part.add(t.copy());
                }
                if (!part.isEmpty()) {
                    part.get(0).blank = b.blank;
                }
            } else {
                Tok t = b.copy();
                t.file = name.file;
                t.line = name.line;
                t.place = name.place;
                part.add(t);
            }
            operands.add(part);
            glued.add(glue);
            glue = false;
        }
        List<Tok> row = new ArrayList<>();
        for (int i = 0; i < operands.size(); i++) {
            List<Tok> cur = operands.get(i);
            while (i + 1 < operands.size() && glued.get(i + 1)) {
                i++;
                cur = paste(r, name, cur, operands.get(i));
            }
            row.addAll(cur);
        }
        if (row.size() > 30) {
            throw new Bad(7, name);
        }
        for (Tok t : row) {
            t.hide.addAll(h);
        }
        if (!row.isEmpty()) {
            row.get(0).blank = name.blank;
        }
        return row;
    }

    private List<Tok> paste(Ran r, Tok name, List<Tok> a, List<Tok> b) {
        if (a.isEmpty() || b.isEmpty()) {
            return a.isEmpty() ? b : a;
        }
        List<Tok> both = new ArrayList<>(a.subList(0, a.size() - 1));
        Tok t = a.get(a.size() - 1).copy();
        t.s = t.s + b.get(0).s;
        if (t.s.length() > 30 || !front(t.s).equals(t.s)) {
            throw new Bad(6, name);
        }
        t.kind = kind(t.s);
        t.hide.retainAll(b.get(0).hide);
        if (r.counting) {
            r.now[7]++;
        }
        both.add(t);
        both.addAll(b.subList(1, b.size()));
        return both;
    }

    private Tok stringOf(Ran r, Tok name, Tok hash, List<Tok> arg) {
        StringBuilder s = new StringBuilder("\"");
        for (int i = 0; i < arg.size(); i++) {
            if (i > 0 && arg.get(i).blank) {
                s.append(' ');
            }
            s.append(arg.get(i).s.replace('"', '\''));
        }
        s.append('"');
        if (s.length() > 30) {
            throw new Bad(6, name);
        }
        Tok t = name.copy();
        t.hide.clear();
        t.kind = 2;
        t.s = s.toString();
        t.blank = hash.blank;
        if (r.counting) {
            r.now[8]++;
        }
        return t;
    }

    // ---- E

    private interface Node {
        long worth();
    }

    private static final String[][] LEVELS = {{"||"}, {"&&"}, {"|"}, {"^"}, {"&"}, {"==", "!="},
        {"<", "<=", ">", ">="}, {"<<", ">>"}, {"+", "-"}, {"*", "/", "%"}};

    private final class Parser {
        final List<Tok> row;
        final Bad end;
        int i;

        Parser(List<Tok> row, Bad end) {
            this.row = row;
            this.end = end;
        }

        Bad wrong() {
            return i < row.size() ? new Bad(8, row.get(i)) : end;
        }

        boolean at(String s) {
            return i < row.size() && row.get(i).is(s);
        }

        Node all() {
            Node n = ternary(0);
            if (i < row.size()) {
                throw wrong();
            }
            return n;
        }

        Node ternary(int deep) {
            Node c = level(0, deep);
            if (!at("?")) {
                return c;
            }
            i++;
            Node a = part(deep);
            if (!at(":")) {
                throw wrong();
            }
            i++;
            Node b = part(deep);
            return () -> c.worth() != 0 ? a.worth() : b.worth();
        }

        Node part(int deep) {
            if (deep + 1 > 8) {
                throw wrong();
            }
            return ternary(deep + 1);
        }

        Node level(int k, int deep) {
            if (k == LEVELS.length) {
                return unary(deep);
            }
            Node n = level(k + 1, deep);
            while (i < row.size() && Arrays.asList(LEVELS[k]).contains(row.get(i).s)) {
                Tok op = row.get(i++);
                Node a = n;
                Node b = level(k + 1, deep);
                n = () -> work(op, a, b);
            }
            return n;
        }

        Node unary(int deep) {
            if (i >= row.size()) {
                throw wrong();
            }
            Tok t = row.get(i);
            if (t.kind == 3) {
                if (!"!~-+(".contains(t.s) || deep + 1 > 8) {
                    throw wrong();
                }
                i++;
                if (t.is("(")) {
                    Node n = ternary(deep + 1);
                    if (!at(")")) {
                        throw wrong();
                    }
                    i++;
                    return n;
                }
                Node n = unary(deep + 1);
                switch (t.s) {
                    case "!":
                        return () -> n.worth() == 0 ? 1 : 0;
                    case "~":
                        return () -> ~n.worth();
                    case "-":
                        return () -> -n.worth();
                    default:
                        return n;
                }
            }
            if (t.kind == 2) {
                throw wrong();
            }
            long w = 0;
            if (t.kind == 1 && t.s.matches("0x[0-9a-fA-F]{1,16}")) {
                w = Long.parseUnsignedLong(t.s.substring(2), 16);
            } else if (t.kind == 1) {
                if (!t.s.matches("[0-9]+")
                        || new java.math.BigInteger(t.s).bitLength() > 63) {
                    throw wrong();
                }
                w = Long.parseLong(t.s);
            }
            i++;
            long worth = w;
            return () -> worth;
        }
    }

    private static long work(Tok op, Node left, Node right) {
        long a = left.worth();
        if (op.is("||")) {
            return a != 0 || right.worth() != 0 ? 1 : 0;
        }
        if (op.is("&&")) {
            return a != 0 && right.worth() != 0 ? 1 : 0;
        }
        long b = right.worth();
        switch (op.s) {
            case "|":
                return a | b;
            case "^":
                return a ^ b;
            case "&":
                return a & b;
            case "==":
                return a == b ? 1 : 0;
            case "!=":
                return a != b ? 1 : 0;
            case "<":
                return a < b ? 1 : 0;
            case "<=":
                return a <= b ? 1 : 0;
            case ">":
                return a > b ? 1 : 0;
            case ">=":
                return a >= b ? 1 : 0;
            case "<<":
                return a << b;
            case ">>":
                return a >> b;
            case "+":
                return a + b;
            case "-":
                return a - b;
            case "*":
                return a * b;
            default:
                if (b == 0) {
                    throw new Bad(9, op);
                }
                return op.is("/") ? a / b : a % b;
        }
    }

    private long sum(Ran r, List<Tok> row, Bad end) {
        List<Tok> told = new ArrayList<>();
        int i = 0;
        while (i < row.size()) {
            Tok t = row.get(i);
            if (!t.is("defined")) {
                told.add(t);
                i++;
                continue;
            }
            List<Tok> rest = row.subList(i + 1, row.size());
            boolean bracket = !rest.isEmpty() && rest.get(0).is("(");
            int at = bracket ? 1 : 0;
            if (rest.size() <= at) {
                throw end;
            }
            if (rest.get(at).kind != 0) {
                throw new Bad(8, rest.get(at));
            }
            if (bracket && rest.size() <= 2) {
                throw end;
            }
            if (bracket && !rest.get(2).is(")")) {
                throw new Bad(8, rest.get(2));
            }
            Tok n = t.copy();
            n.kind = 1;
            n.s = r.isMacro(rest.get(at).s) ? "1" : "0";
            told.add(n);
            i += bracket ? 4 : 2;
        }
        return new Parser(expandRow(r, told), end).all().worth();
    }

    // ---- a RUN

    private static final class Group {
        int line;
        int place;
        boolean outer;
        boolean live;
        boolean taken;
        boolean hadElse;
    }

    private Ran runAll(int k, int by) {
        Ran r = new Ran();
        for (int i = 0; i < switches.size(); i++) {
            Mac m = new Mac();
            m.name = switches.get(i);
            m.defined = (by >> i & 1) == 1;
            m.body = lex("1", -1, -1);
            r.macs.add(m);
        }
        try {
            runFile(r, k, 0);
        } catch (Bad b) {
            r.bad = b;
        }
        r.now[0] = r.macs.size();
        return r;
    }

    private void runFile(Ran r, int f, int deep) {
        List<Group> groups = new ArrayList<>();
        for (int l = 0; l < files.get(f).size(); l++) {
            String s = files.get(f).get(l);
            String w = groupWord(s);
            Group top = groups.isEmpty() ? null : groups.get(groups.size() - 1);
            int hash = s.length() - s.replaceFirst("^ *", "").length();
            if (!w.isEmpty() && !w.equals("if")
                    && (top == null || top.hadElse && !w.equals("endif"))) {
                throw new Bad(10, f, l, hash);
            }
            boolean skipping = top != null && !top.live;
            boolean own = !w.isEmpty() && !w.equals("if") && top.outer;
            if (skipping && !own) {
                r.now[2]++;
                if (w.equals("if")) {
                    Group g = new Group();
                    g.line = l;
                    g.place = hash;
                    groups.add(g);
                } else if (w.equals("else")) {
                    top.hadElse = true;
                } else if (w.equals("endif")) {
                    groups.remove(top);
                }
                continue;
            }
            if (w.equals("elif") && top.taken) {
                top.live = false;
            } else {
                liveLine(r, f, l, s, groups, deep);
            }
            r.passed.merge(f + "," + l, 1, Integer::sum);
        }
        if (!groups.isEmpty()) {
            Group g = groups.get(groups.size() - 1);
            throw new Bad(10, f, g.line, g.place);
        }
    }

    private void liveLine(Ran r, int f, int l, String s, List<Group> groups, int deep) {
        List<Tok> row = lex(s, f, l);
        if (row.isEmpty() || !row.get(0).is("#")) {
            for (Tok t : expandRow(r, row)) {
                if (r.out.size() == 300) {
                    throw new Bad(7, t);
                }
                r.out.add(t);
            }
            r.now[1]++;
            return;
        }
        if (row.size() == 1) {
            return;
        }
        Bad end2 = new Bad(2, f, l, s.length());
        Bad end8 = new Bad(8, f, l, s.length());
        Group top = groups.isEmpty() ? null : groups.get(groups.size() - 1);
        Group g = new Group();
        g.line = l;
        g.place = row.get(0).place;
        g.outer = true;
        List<Tok> rest = row.subList(2, row.size());
        switch (row.get(1).s) {
            case "define":
                define(r, f, l, rest, end2);
                break;
            case "undef":
                nameAlone(rest, end2);
                if (r.isMacro(rest.get(0).s)) {
                    r.find(rest.get(0).s).defined = false;
                }
                break;
            case "include":
                include(r, rest, end2, deep);
                break;
            case "if":
                g.live = sum(r, rest, end8) != 0;
                g.taken = g.live;
                r.now[9]++;
                groups.add(g);
                break;
            case "ifdef":
            case "ifndef":
                nameAlone(rest, end2);
                g.live = r.isMacro(rest.get(0).s) == row.get(1).is("ifdef");
                g.taken = g.live;
                r.now[9]++;
                groups.add(g);
                break;
            case "elif":
                top.live = sum(r, rest, end8) != 0;
                top.taken = top.live;
                r.now[9]++;
                break;
            case "else":
                nothingMore(rest);
                top.live = !top.taken;
                top.taken = true;
                top.hadElse = true;
                break;
            case "endif":
                nothingMore(rest);
                groups.remove(top);
                break;
            default:
                throw new Bad(2, row.get(1));
        }
    }

    private static void nothingMore(List<Tok> rest) {
        if (!rest.isEmpty()) {
            throw new Bad(2, rest.get(0));
        }
    }

    private static void nameAlone(List<Tok> rest, Bad end) {
        if (rest.isEmpty()) {
            throw end;
        }
        if (rest.get(0).kind != 0) {
            throw new Bad(2, rest.get(0));
        }
        nothingMore(rest.subList(1, rest.size()));
    }

    private void include(Ran r, List<Tok> rest, Bad end, int deep) {
        if (rest.isEmpty()) {
            throw end;
        }
        Tok n = rest.get(0);
        if (!n.s.matches("[0-9]")) {
            throw new Bad(2, n);
        }
        int k = Integer.parseInt(n.s);
        if (k > 3 || files.get(k) == null) {
            throw new Bad(11, n);
        }
        String by = guardedBy(files.get(k));
        boolean spared = by != null && r.isMacro(by);
        if (!spared && (deep == 6 || r.begun == 12)) {
            throw new Bad(11, n);
        }
        nothingMore(rest.subList(1, rest.size()));
        if (spared) {
            r.now[4]++;
            return;
        }
        r.begun++;
        r.now[3]++;
        r.now[5] = Math.max(r.now[5], deep + 1);
        runFile(r, k, deep + 1);
    }

    private void define(Ran r, int f, int l, List<Tok> rest, Bad end) {
        if (rest.isEmpty()) {
            throw end;
        }
        Tok name = rest.get(0);
        if (name.kind != 0 || name.is("defined")) {
            throw new Bad(2, name);
        }
        if (r.isMacro(name.s)) {
            throw new Bad(5, name);
        }
        if (r.find(name.s) == null && r.macs.size() == 12) {
            throw new Bad(7, name);
        }
        List<String> params = null;
        int i = 1;
        if (rest.size() > 1 && rest.get(1).is("(") && !rest.get(1).blank) {
            params = new ArrayList<>();
            i = 2;
            boolean open = true;
            if (i < rest.size() && rest.get(i).is(")")) {
                i++;
                open = false;
            }
            while (open) {
                if (i >= rest.size()) {
                    throw end;
                }
                Tok p = rest.get(i++);
                if (p.kind != 0 || params.contains(p.s)) {
                    throw new Bad(2, p);
                }
                if (params.size() == 4) {
                    throw new Bad(7, p);
                }
                params.add(p.s);
                if (i >= rest.size()) {
                    throw end;
                }
                Tok c = rest.get(i++);
                if (!c.is(",") && !c.is(")")) {
                    throw new Bad(2, c);
                }
                open = c.is(",");
            }
        }
        List<Tok> body = rest.subList(i, rest.size());
        for (int b = 0; b < body.size(); b++) {
            Tok t = body.get(b);
            boolean last = b == body.size() - 1;
            if (t.is("##") && (b == 0 || last || body.get(b - 1).is("##"))) {
                throw new Bad(2, t);
            }
            if (t.is("#") && params != null && (last || !params.contains(body.get(b + 1).s))) {
                throw new Bad(2, t);
            }
            if (b == 20) {
                throw new Bad(7, t);
            }
        }
        Mac m = r.find(name.s);
        if (m == null) {
            m = new Mac();
            m.name = name.s;
            r.macs.add(m);
        }
        m.defined = true;
        m.params = params;
        m.body = new ArrayList<>(body);
        m.file = f;
        m.line = l;
    }

    // ---- groups of a FILE

    /** For each LINE the number of the first LINE of its group, -1 if it is of none. */
    private static int[] groupsOf(List<String> file) {
        int[] of = new int[file.size()];
        List<Integer> open = new ArrayList<>();
        for (int l = 0; l < file.size(); l++) {
            String w = groupWord(file.get(l));
            of[l] = -1;
            if (w.equals("if")) {
                open.add(l);
            }
            if (!w.isEmpty() && !open.isEmpty()) {
                of[l] = open.get(open.size() - 1);
                if (w.equals("endif")) {
                    open.remove(open.size() - 1);
                }
            }
        }
        return of;
    }

    private static String guardedBy(List<String> file) {
        int[] of = groupsOf(file);
        int first = -1;
        int last = -1;
        for (int l = 0; l < file.size(); l++) {
            if (!file.get(l).trim().isEmpty()) {
                first = first < 0 ? l : first;
                last = l;
            }
        }
        if (first < 0) {
            return null;
        }
        java.util.regex.Matcher m = java.util.regex.Pattern
                .compile("^ *# *ifndef +([A-Za-z_][A-Za-z0-9_]{0,29}) *$").matcher(file.get(first));
        if (!m.matches() || of[last] != first || !groupWord(file.get(last)).equals("endif")) {
            return null;
        }
        for (int l = first + 1; l < last; l++) {
            if (of[l] == first) {
                return null;
            }
        }
        return m.group(1);
    }

    // ---- the face

    private String takeTape() {
        String s = new String(tape, java.nio.charset.StandardCharsets.ISO_8859_1);
        tape = new byte[0];
        return s;
    }

    private static int wrongByte(String s, boolean newline) {
        for (int i = 0; i < s.length(); i++) {
            char c = s.charAt(i);
            if ((c < 32 || c > 126) && !(newline && c == 10)) {
                return i;
            }
        }
        return -1;
    }

    private boolean told(int k) {
        return k >= 0 && k < 4 && files.get(k) != null;
    }

    private boolean has(int f, int l) {
        return told(f) && l >= 0 && l < files.get(f).size();
    }

    private int settings() {
        return 1 << switches.size();
    }

    int feed(int a, int b, int c, int d, int e) {
        if (tape.length + 20 > 440) {
            return -1;
        }
        java.nio.ByteBuffer more = java.nio.ByteBuffer.allocate(tape.length + 20);
        more.put(tape).putInt(a).putInt(b).putInt(c).putInt(d).putInt(e);
        tape = more.array();
        return tape.length;
    }

    boolean end(int n) {
        if (n < 0 || n > tape.length) {
            return false;
        }
        tape = Arrays.copyOf(tape, n);
        return true;
    }

    int file(int k) {
        String s = takeTape();
        if (k < 0 || k > 3) {
            return -2;
        }
        if (s.length() > 400) {
            return -3;
        }
        if (wrongByte(s, true) >= 0) {
            return -1000 - wrongByte(s, true);
        }
        List<String> lines = new ArrayList<>(Arrays.asList(s.split("\n", -1)));
        if (lines.get(lines.size() - 1).isEmpty()) {
            lines.remove(lines.size() - 1);
        }
        if (lines.size() > 40) {
            return -3;
        }
        files.set(k, lines);
        return lines.size();
    }

    int switches() {
        String s = takeTape();
        List<String> names = new ArrayList<>();
        for (String n : s.split(" ")) {
            if (n.isEmpty()) {
                continue;
            }
            if (!n.matches("[A-Za-z_][A-Za-z0-9_]{0,29}") || n.contains("\n") || n.equals("defined")
                    || names.contains(n)) {
                return -1;
            }
            names.add(n);
        }
        if (names.size() > 3) {
            return -1;
        }
        switches = names;
        setting = 0;
        return names.size();
    }

    int set(int by) {
        if (by < 0 || by >= settings()) {
            return -1;
        }
        setting = by;
        return 0;
    }

    int run(int k) {
        if (!told(k)) {
            return -1;
        }
        ran = runAll(k, setting);
        came = ran.out;
        bad = ran.bad;
        return bad != null ? -2 : came.size();
    }

    int fault(int what) {
        if (what == 0) {
            return bad == null ? 0 : bad.kind;
        }
        if (bad == null || what < 0 || what > 3) {
            return -1;
        }
        return what == 1 ? bad.file : what == 2 ? bad.line : bad.place;
    }

    private List<Tok> tapeRow(String s) {
        if (wrongByte(s, false) >= 0) {
            throw new Bad(1, -1, -1, wrongByte(s, false));
        }
        ran.counting = false;
        ran.expansions = 0;
        return lex(s, -1, -1);
    }

    int expand() {
        String s = takeTape();
        bad = null;
        came = new ArrayList<>();
        try {
            came = expandRow(ran, tapeRow(s));
        } catch (Bad b) {
            bad = b;
            return -2;
        }
        return came.size();
    }

    long value() {
        String s = takeTape();
        bad = null;
        try {
            return sum(ran, tapeRow(s), new Bad(8, -1, -1, s.length()));
        } catch (Bad b) {
            bad = b;
            throw new NoSuchElementException();
        }
    }

    int token(int k, int what) {
        if (k < 0 || k >= came.size() || what < 0 || what > 6) {
            throw new NoSuchElementException();
        }
        Tok t = came.get(k);
        int bits = 0;
        for (int h : t.hide) {
            bits |= 1 << h;
        }
        return new int[] {t.kind, t.s.length(), t.file, t.line, t.place, bits, t.blank ? 1 : 0}[what];
    }

    int tokenAt(int k, int i) {
        if (k < 0 || k >= came.size() || i < 0 || i >= came.get(k).s.length()) {
            return -1;
        }
        return came.get(k).s.charAt(i);
    }

    int macro(int m, int what) {
        if (m < 0 || m >= ran.macs.size() || what < 0 || what > 5) {
            throw new NoSuchElementException();
        }
        Mac x = ran.macs.get(m);
        if (what == 0) {
            return x.defined ? 1 : 0;
        }
        if (what == 5) {
            return x.used;
        }
        if (!x.defined) {
            return -1;
        }
        return what == 1 ? x.params == null ? -1 : x.params.size()
                : what == 2 ? x.body.size() : what == 3 ? x.file : x.line;
    }

    int macroAt(int m, int i) {
        if (m < 0 || m >= ran.macs.size() || i < 0 || i >= ran.macs.get(m).name.length()) {
            return -1;
        }
        return ran.macs.get(m).name.charAt(i);
    }

    int now(int what) {
        return what < 0 || what > 9 ? -1 : ran.now[what];
    }

    int passed(int f, int l) {
        return has(f, l) ? ran.passed.getOrDefault(f + "," + l, 0) : -1;
    }

    int presence(int k, int f, int l) {
        if (!told(k) || !has(f, l)) {
            return -1;
        }
        int bits = 0;
        for (int s = 0; s < settings(); s++) {
            if (runAll(k, s).passed.getOrDefault(f + "," + l, 0) > 0) {
                bits |= 1 << s;
            }
        }
        return bits;
    }

    private List<String> allOutcomes(int k) {
        List<String> all = new ArrayList<>();
        for (int s = 0; s < settings(); s++) {
            all.add(runAll(k, s).outcome());
        }
        return all;
    }

    int outcomes(int k) {
        return told(k) ? new HashSet<>(allOutcomes(k)).size() : -1;
    }

    int like(int k, int by) {
        if (!told(k) || by < 0 || by >= settings()) {
            return -1;
        }
        List<String> all = allOutcomes(k);
        return all.indexOf(all.get(by));
    }

    int depends(int k) {
        if (!told(k)) {
            return -1;
        }
        List<String> all = allOutcomes(k);
        int bits = 0;
        for (int s = 0; s < all.size(); s++) {
            for (int b = 0; b < switches.size(); b++) {
                if (!all.get(s).equals(all.get(s ^ 1 << b))) {
                    bits |= 1 << b;
                }
            }
        }
        return bits;
    }

    int guard(int k) {
        if (!told(k)) {
            return -1;
        }
        String by = guardedBy(files.get(k));
        if (by == null) {
            return 0;
        }
        guardName = by;
        return by.length();
    }

    int guardAt(int i) {
        return i < 0 || i >= guardName.length() ? -1 : guardName.charAt(i);
    }

    int nextOf(int f, int l) {
        if (!has(f, l)) {
            return -1;
        }
        int[] of = groupsOf(files.get(f));
        for (int i = l + 1; i < of.length && of[l] >= 0; i++) {
            if (of[i] == of[l]) {
                return i;
            }
        }
        return -1;
    }

    int edit(int f, int l) {
        String s = takeTape();
        if (!told(f) || l < 0 || l > files.get(f).size()) {
            return -2;
        }
        if (wrongByte(s, false) >= 0) {
            return -1000 - wrongByte(s, false);
        }
        List<String> lines = new ArrayList<>(files.get(f));
        if (l == lines.size()) {
            lines.add(s);
        } else {
            lines.set(l, s);
        }
        int bytes = 0;
        for (String x : lines) {
            bytes += x.length() + 1;
        }
        if (bytes > 400 || lines.size() > 40) {
            return -3;
        }
        files.set(f, lines);
        return lines.size();
    }

    int drop(int f, int l) {
        if (!has(f, l)) {
            return -1;
        }
        List<String> lines = new ArrayList<>(files.get(f));
        lines.remove(l);
        files.set(f, lines);
        return lines.size();
    }

    boolean image(int k) {
        if (k < 0 || k > 1) {
            return false;
        }
        images[k] = new Object[] {new ArrayList<>(files), switches, setting};
        return true;
    }

    @SuppressWarnings("unchecked")
    boolean restore(int k) {
        if (k < 0 || k > 1 || images[k] == null) {
            return false;
        }
        files = new ArrayList<>((List<List<String>>) images[k][0]);
        switches = (List<String>) images[k][1];
        setting = (Integer) images[k][2];
        return true;
    }

    int count(int what) {
        switch (what) {
            case 0:
                int n = 0;
                for (int k = 0; k < 4; k++) {
                    n += told(k) ? 1 : 0;
                }
                return n;
            case 1:
                return switches.size();
            case 2:
                return setting;
            case 3:
                return tape.length;
            default:
                return -1;
        }
    }

    int lines(int k) {
        return told(k) ? files.get(k).size() : -1;
    }
}
