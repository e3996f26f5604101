import java.util.NoSuchElementException;

/** The boundary cases of the 29 promises: arguments at and beyond each edge, and what a refused call leaves. */
public final class CallEdgesTest extends Probe {
    private static final int LEAST = Integer.MIN_VALUE;
    private static final int MOST = Integer.MAX_VALUE;
    private static final String FINE = "0 -1 -1 -1";
    private static final String NOTHING_RUN = "0 0 0 0 0 0 0 0 0 0";

    /** A call with an answer; a boolean counts 1 or 0, NoSuchElementException THREW. */
    private interface Call {
        long on(HideSets x);
    }

    // ---- what a refused call leaves

    /** An object of which all that can be asked has an answer of its own. */
    private static HideSets rich() {
        HideSets x = new HideSets();
        file(x, 0, "other", "image");
        switches(x, "i");
        x.set(1);
        x.image(0);
        file(x, 0, "#ifndef G1", "#define G1(x) #x s", "p G1( q)", "#endif");
        file(x, 1, "t", "#if s", "u", "#endif");
        file(x, 2, "");
        switches(x, "s t");
        x.set(1);
        x.guard(0);
        x.run(0);
        tell(x, "tape");
        return x;
    }

    /** All that can be asked without a change, but for the tape. */
    private static String asked(HideSets x) {
        StringBuilder b = new StringBuilder();
        b.append(x.count(0)).append(x.count(1)).append(x.count(2)).append(' ').append(bad(x)).append(' ').append(nows(x));
        b.append(all(x)).append(each(x, 2)).append(each(x, 3)).append(places(x)).append(hides(x)).append(guardName(x));
        for (int m = 0; m < x.now(0); m++) {
            b.append(' ').append(macroName(x, m));
            for (int what = 0; what < 6; what++) {
                b.append(' ').append(macro(x, m, what));
            }
        }
        for (int f = 0; f < 4; f++) {
            b.append('/').append(x.lines(f)).append(':').append(passes(x, f)).append(':').append(nexts(x, f));
        }
        return b.toString();
    }

    /** What the FILES bring by the SWITCHES and the SETTING; this makes RUNS. */
    private static String told(HideSets x) {
        StringBuilder b = new StringBuilder();
        for (int k = 0; k < 4; k++) {
            b.append(x.outcomes(k)).append(x.depends(k)).append(x.like(k, 1)).append(x.guard(k));
            b.append(x.run(k)).append(all(x)).append(places(x)).append(nows(x)).append('/');
        }
        return b.toString();
    }

    /** The call is refused with this answer, and all stays, but for the tape. */
    private static void refused(String what, Call call, long answer, int tape) {
        HideSets x = rich();
        String before = asked(x);
        due(what, call.on(x), answer);
        due(what + ": all stays", asked(x), before);
        due(what + ": the tape", x.count(3), tape);
        due(what + ": what was told stays", told(x), told(rich()));
        x.restore(0);
        HideSets y = rich();
        told(y);
        y.restore(0);
        due(what + ": what was kept stays", told(x), told(y));
        due(what + ": no more is kept", x.restore(1), false);
    }

    private static long valueOf(HideSets x) {
        try {
            return x.value();
        } catch (NoSuchElementException e) {
            return THREW;
        }
    }

    // ---- the promises

    private static void newObject() {
        sentence("No FILES, no SWITCHES, SETTING 0; nothing was run");
        HideSets x = new HideSets();
        due("files, switches, setting, tape", x.count(0) + x.count(1) + x.count(2) + x.count(3), 0);
        for (int k = 0; k < 4; k++) {
            due("lines " + k, x.lines(k), -1);
            due("run " + k, x.run(k), -1);
            due("guard " + k, x.guard(k), -1);
            due("outcomes " + k, x.outcomes(k), -1);
            due("depends " + k, x.depends(k), -1);
            due("like " + k, x.like(k, 0), -1);
            due("passed " + k, x.passed(k, 0), -1);
            due("presence " + k, x.presence(k, k, 0), -1);
            due("nextOf " + k, x.nextOf(k, 0), -1);
            due("drop " + k, x.drop(k, 0), -1);
            due("edit " + k, x.edit(k, 0), -2);
        }
        due("nothing was run", nows(x), NOTHING_RUN);
        due("no fault", bad(x), FINE);
        due("no token", token(x, 0, 0), THREW);
        due("no byte", x.tokenAt(0, 0), -1);
        due("no macro", macro(x, 0, 0), THREW);
        due("no name", x.macroAt(0, 0), -1);
        due("no guard", x.guardAt(0), -1);
        due("setting 0 can be", x.set(0), 0);
        due("1 can't", x.set(1), -1);
        due("nothing is kept", x.restore(0) || x.restore(1), false);
        due("two objects are apart", rich().count(0) * 10 + new HideSets().count(0), 30);
    }

    private static void feedAndEnd() {
        sentence("Twenty bytes come behind the tape, of each number the highest first: how many it has");
        HideSets x = new HideSets();
        due("twenty", x.feed(0x20414243, 0x44454647, 0x48494a4b, 0x4c4d4e4f, 0x50515253), 20);
        due("in order", x.expand() == 1 ? word(x, 0) : "", "ABCDEFGHIJKLMNOPQRS");
        due("blank first", token(x, 0, 6) * 10 + token(x, 0, 4), 11);
        due("anew", x.feed(0x41202020, 0x20202020, 0x20202020, 0x20202020, 0x20202042), 20);
        due("behind", x.feed(0x43202020, 0x20202020, 0x20202020, 0x20202020, 0x20202044), 40);
        due("two rows", x.expand() == 3 ? all(x) + places(x) : "", "A BC D0 19 39");
        x.feed(0x61627f63, 0, 0, 0, 0);
        x.end(4);
        due("127 comes as it is", x.file(0), -1002);
        x.feed(0x616280ff, -1, LEAST, MOST, 0);
        x.end(4);
        due("128 and 255 come as they are", x.file(0), -1002);
        x.feed(0x61626364, 0, 0, 0, 0);
        x.end(2);
        x.feed(0x65660000, 0, 0, 0, 0);
        x.end(4);
        due("behind what end left", x.expand() == 1 ? word(x, 0) : "", "abef");

        sentence("NONE, and none come, if it would have more than 440");
        x = new HideSets();
        for (int n = 1; n <= 22; n++) {
            due("feed " + n, x.feed(0x2b2b2b2b, 0x2b2b2b2b, 0x2b2b2b2b, 0x2b2b2b2b, 0x2b2b2b2b), 20 * n);
        }
        due("a 23rd", x.feed(0x2d2d2d2d, 0x2d2d2d2d, 0x2d2d2d2d, 0x2d2d2d2d, 0x2d2d2d2d), -1);
        due("none came", x.count(3), 440);
        due("all 440 are there", x.expand(), 440);
        due("none of the others", word(x, 0) + word(x, 439), "++");
        for (int n = 1; n <= 22; n++) {
            x.feed(0, 0, 0, 0, 0);
        }
        x.end(421);
        due("from 421", x.feed(0, 0, 0, 0, 0), -1);
        due("421 stay", x.count(3), 421);
        x.end(420);
        due("from 420", x.feed(0, 0, 0, 0, 0), 440);
        refused("a feed beyond", y -> {
            for (int n = 0; n < 21; n++) {
                y.feed(0, 0, 0, 0, 0);
            }
            return y.feed(0, 0, 0, 0, 0);
        }, -1, 424);

        sentence("The tape has its first n bytes alone: true; false, if it has not so many, or n is below 0");
        x = tell(new HideSets(), "abcde");
        due("one more", x.end(6), false);
        due("as many", x.end(5), true);
        due("5 are there", x.count(3), 5);
        due("one fewer", x.end(4), true);
        due("not 5 any more", x.end(5), false);
        due("4 stay", x.count(3), 4);
        due("-1", x.end(-1), false);
        due("the least", x.end(LEAST), false);
        due("the most", x.end(MOST), false);
        due("4 stay still", x.count(3), 4);
        due("the first ones", x.expand() == 1 ? word(x, 0) : "", "abcd");
        due("0", tell(x, "ab").end(0), true);
        due("none is left", x.count(3), 0);
        due("0 of none", x.end(0), true);
        due("1 of none", x.end(1), false);
        refused("end beyond", y -> y.end(5) ? 1 : 0, 0, 4);
        refused("end below 0", y -> y.end(-1) ? 1 : 0, 0, 4);
    }

    private static void fileCall() {
        sentence("The tape (empty then, with a FAULT, too, here and below) is FILE k now: how many LINES");
        HideSets x = new HideSets();
        due("two", file(x, 3, "a", "b"), 2);
        due("empty then", x.count(3), 0);
        due("in place of the one before", file(x, 3, "c"), 1);
        x.run(3);
        due("its lines alone", all(x) + x.lines(3), "c1");

        sentence("(0: no bytes; an empty LINE behind the last 10 is none)");
        due("no bytes", file(x, 0, ""), 0);
        due("it is told", x.count(0) * 10 + x.lines(0), 20);
        due("it runs", x.run(0), 0);
        due("10", file(x, 0, "\n"), 1);
        due("10 10", file(x, 0, "\n\n"), 2);
        due("a 10", file(x, 0, "a\n"), 1);
        due("a 10 10", file(x, 0, "a\n\n"), 2);
        due("a 10 b", file(x, 0, "a\nb"), 2);

        sentence("-2: no such k (0 to 3)");
        refused("4", y -> y.file(4), -2, 0);
        refused("-1", y -> y.file(-1), -2, 0);
        refused("the most", y -> y.file(MOST), -2, 0);
        refused("the least", y -> y.file(LEAST), -2, 0);

        sentence("-3 too many bytes");
        refused("401", y -> file(y, 0, times("a", 401)), -3, 0);
        refused("440", y -> file(y, 3, times("a", 440)), -3, 0);

        sentence("-1000 less the place of a byte that can't be");
        refused("the first", y -> file(y, 0, "\t"), -1000, 0);
        refused("the last of 400", y -> file(y, 0, times("a", 399) + "\u007f"), -1399, 0);
        refused("the first of two", y -> file(y, 0, "a\u0001\u0002"), -1001, 0);
        refused("behind lines", y -> file(y, 1, "a", "b", "\u00ff"), -1004, 0);
        refused("0", y -> file(y, 1, "a\u0000"), -1001, 0);
        refused("13", y -> file(y, 1, "a\r\n"), -1001, 0);

        sentence("-3 too many LINES: it stays");
        refused("41", y -> file(y, 0, times("\n", 41)), -3, 0);
        refused("41, the last without 10", y -> file(y, 0, times("\n", 40) + "x"), -3, 0);
        due("40", file(x, 1, times("\n", 39) + "x"), 40);

        sentence("(in this order)");
        due("k ahead of bytes", file(x, 4, times("a", 401)), -2);
        due("k ahead of a byte", file(x, -1, "\t"), -2);
        due("k ahead of lines", file(x, 4, times("\n", 41)), -2);
        due("bytes ahead of a byte", file(x, 0, "\t" + times("a", 400)), -3);
        due("a byte ahead of lines", file(x, 0, times("\n", 50) + "\t"), -1050);
    }

    private static void switchesCall() {
        sentence("The tape tells SWITCHES (NAMES, blanks between them, unlike; none 'defined'): how many; SETTING is 0");
        HideSets x = new HideSets();
        due("none", switches(x, ""), 0);
        due("blanks", switches(x, "   "), 0);
        due("one", switches(x, "a"), 1);
        x.set(1);
        due("three", switches(x, "a_1   _  Z9"), 3);
        due("setting", x.count(2), 0);
        due("empty then", x.count(3), 0);
        x.set(7);
        due("none again", switches(x, ""), 0);
        due("setting again", x.count(1) + x.count(2), 0);
        due("30 bytes", switches(x, times("a", 30) + " " + times("a", 29) + " " + times("a", 28)), 3);
        due("unlike by case", switches(x, "a A"), 2);
        due("nearly defined", switches(x, "define defined_ Defined"), 3);
        due("names of directives", switches(x, "if else endif"), 3);

        sentence("NONE: not as told: they stay");
        refused("four", y -> switches(y, "a b c d"), -1, 0);
        refused("alike", y -> switches(y, "a a"), -1, 0);
        refused("alike, the third", y -> switches(y, "a b a"), -1, 0);
        refused("alike, the last two", y -> switches(y, "a b b"), -1, 0);
        refused("defined", y -> switches(y, "defined"), -1, 0);
        refused("defined, the third", y -> switches(y, "a b defined"), -1, 0);
        refused("a number", y -> switches(y, "1"), -1, 0);
        refused("a name behind a digit", y -> switches(y, "a 1b"), -1, 0);
        refused("a sign", y -> switches(y, "a,b"), -1, 0);
        refused("a string", y -> switches(y, "\"a\""), -1, 0);
        refused("a 10", y -> switches(y, "a\nb"), -1, 0);
        refused("a 10 behind", y -> switches(y, "a\n"), -1, 0);
        refused("0", y -> switches(y, "a\u0000"), -1, 0);
        refused("255", y -> switches(y, "\u00ff"), -1, 0);
        refused("31 bytes", y -> switches(y, times("a", 31)), -1, 0);
        refused("440 bytes", y -> switches(y, times("a", 440)), -1, 0);
    }

    private static void setCall() {
        sentence("SETTING: 0; NONE: there are not such SWITCHES, it stays");
        String[] names = {"", "a", "a b", "a b c"};
        for (int n = 0; n < 4; n++) {
            HideSets x = new HideSets();
            switches(x, names[n]);
            int last = (1 << n) - 1;
            due(n + " switches, the last", x.set(last), 0);
            due("it is set", x.count(2), last);
            due("one beyond", x.set(last + 1), -1);
            due("-1", x.set(-1), -1);
            due("the least", x.set(LEAST), -1);
            due("the most", x.set(MOST), -1);
            due("it stays", x.count(2), last);
            due("0", x.set(0), 0);
            due("it is 0", x.count(2), 0);
        }
        refused("beyond", y -> y.set(4), -1, 4);
        refused("below", y -> y.set(-1), -1, 4);
        HideSets x = rich();
        String before = asked(x);
        x.set(1);
        due("what was run stays", asked(x), before);
    }

    private static void runCall() {
        sentence("FILE k is RUN by the SETTING: how many TOKENS come out");
        HideSets x = with("");
        due("none", x.run(0), 0);
        due("no fault", bad(x), FINE);
        file(x, 0, "a b c");
        due("three", x.run(0), 3);
        due("again the same", x.run(0), 3);
        file(x, 0, "#define a");
        due("macros are those of the run", x.run(0) * 10 + x.run(0), 0);
        due("no define of a macro", x.fault(0), 0);
        due("the tape stays", tell(x, "tape").run(0) + x.count(3), 4);

        sentence("-2: a FAULT (those of LINES ahead of it came out; a LINE's do so when all of it is EXPANDED");
        file(x, 0, "a b", "c \"", "d");
        due("a fault", x.run(0), -2);
        due("those ahead", all(x), "a b");
        file(x, 0, "#define f(x) x", "a", "b c f(", "d");
        due("at the end of a line", x.run(0), -2);
        due("not those of its line", all(x), "a");
        file(x, 0, "\"");
        due("at once", x.run(0), -2);
        due("nothing came out", token(x, 0, 0), THREW);
        file(x, 0, "a", "#include 1", "b");
        file(x, 1, "c", "\"");
        due("in an include", x.run(0), -2);
        due("those of both", all(x), "a.c");
        file(x, 0, "a", "#if 1");
        due("at the end", x.run(0), -2);
        due("all came out", all(x), "a");

        sentence("the first 300 before a 301st)");
        file(x, 0, times("+", 298), "a b c d");
        due("a fault", x.run(0), -2);
        due("the first 300", word(x, 298) + word(x, 299), "ab");
        due("none behind", token(x, 300, 0), THREW);
        due("the line is not passed on", x.now(1) + x.passed(0, 1), 1);

        sentence("NONE: it was not told");
        refused("3", y -> y.run(3), -1, 4);
        refused("4", y -> y.run(4), -1, 4);
        refused("-1", y -> y.run(-1), -1, 4);
        refused("the most", y -> y.run(MOST), -1, 4);
        refused("the least", y -> y.run(LEAST), -1, 4);
    }

    private static void faultCall() {
        sentence("Of the latest run(), expand(), value() that was not NONE: 0 the kind of its FAULT (0: none, or ahead of any)");
        HideSets x = new HideSets();
        due("ahead of any", x.fault(0), 0);
        file(x, 0, "", " \"");
        x.run(0);
        due("run", bad(x), "1 0 1 1");
        x.run(3);
        due("a run that is NONE", bad(x), "1 0 1 1");
        expand(x, "a");
        due("expand without", bad(x), FINE);
        expand(x, "ab \"");
        due("expand", bad(x), "1 -1 -1 3");
        worth(x, "7");
        due("value without", bad(x), FINE);
        worth(x, "7 )");
        due("value", bad(x), "8 -1 -1 2");
        x.run(0);
        due("run again", bad(x), "1 0 1 1");
        file(x, 0, "");
        switches(x, "1");
        edit(x, 9, 9, "");
        x.outcomes(0);
        x.set(9);
        due("others are none of these", bad(x), "1 0 1 1");

        sentence("1 its FILE, 2 LINE (from 0), 3 place (NONE each: none; FILE and LINE: on the tape). NONE for another what");
        due("4", x.fault(4), -1);
        due("-1", x.fault(-1), -1);
        due("the most", x.fault(MOST), -1);
        due("the least", x.fault(LEAST), -1);
        x.run(0);
        due("none", bad(x), FINE);
        due("4, without", x.fault(4), -1);
        x = with("#include 3");
        file(x, 3, times("\n", 39) + times(" ", 350) + "\"");
        x.run(0);
        due("the last file and line", bad(x), "1 3 39 350");
        worth(x, times(" ", 440));
        due("the last place of the tape", bad(x), "8 -1 -1 440");
    }

    private static void expandCall() {
        sentence("The TOKENS of the LINE that the tape tells are EXPANDED by the MACROS that the latest run() left");
        HideSets x = new HideSets();
        due("no bytes", x.expand(), 0);
        due("blanks", expand(x, "   "), 0);
        due("440 tokens", expand(x, times("+-", 220)), 440);
        due("the last place", token(x, 439, 4), 439);
        due("# is no directive", expand(x, "#define a 1"), 4);
        due("nor is # alone", expand(x, "#"), 1);
        file(x, 0, "#define a 1 2", "#define f(x) <x>", "#define b", "#undef b");
        due("ahead of any there are none", expand(x, "a f(1)"), 5);
        x.run(0);
        due("by macros", expand(x, "a f(a) b") == 7 ? all(x) : "", "1 2 <.1 2.> b");
        due("their hide sets", hides(x), "1 1 2 3 3 2 0");
        due("on the tape", token(x, 0, 2) + token(x, 6, 3), -2);
        file(x, 0, "\"");
        due("files that are told since are not run", expand(x, "a"), 2);
        x.run(0);
        due("a run with a fault leaves its macros", expand(x, "a"), 1);
        file(x, 0, "#define a 1 2", "\"");
        x.run(0);
        due("those ahead of its fault", expand(x, "a"), 2);
        x.run(3);
        due("a run that is NONE leaves them", expand(x, "a"), 2);
        x.outcomes(0);
        due("others are no run", expand(x, "a"), 2);

        sentence("(a byte that can't be in a LINE: FAULT 1 at the first such one, ahead of all else)");
        for (int b = 0; b < 256; b++) {
            boolean can = b >= 32 && b <= 126;
            due("byte " + b, expand(x, "a " + (char) b + (b == '"' ? "\"" : "")) == -2 ? bad(x) : FINE, can ? FINE : "1 -1 -1 2");
        }
        x = ran("#define f(x) x");
        due("ahead of a string without end", expand(x, "\" \n") == -2 ? bad(x) : "", "1 -1 -1 2");
        due("ahead of a longer token", expand(x, times("a", 31) + "\t\t") == -2 ? bad(x) : "", "1 -1 -1 31");
        due("ahead of a bracket", expand(x, "f( \u0000") == -2 ? bad(x) : "", "1 -1 -1 3");
        due("within a string", expand(x, "\"\n\"") == -2 ? bad(x) : "", "1 -1 -1 1");
        due("the last of 440", expand(x, times(" ", 439) + "\n") == -2 ? bad(x) : "", "1 -1 -1 439");

        sentence("EXPANSIONS are counted anew, now() and macro() stay");
        x = ran("#define e", "#define f(x) x##x #x", times("e ", 99), "f(a)");
        String before = nows(x) + macro(x, 0, 5) + macro(x, 1, 5);
        due("100", expand(x, times("e ", 100)), 0);
        due("100 again", expand(x, times("e ", 100)), 0);
        due("101", expand(x, times("e ", 101)) == -2 ? bad(x) : "", "7 -1 -1 200");
        due("pastes and strings", expand(x, "f(b)"), 2);
        due("they stay", nows(x) + macro(x, 0, 5) + macro(x, 1, 5), before);
        due("passed() too", x.passed(0, 3), 1);

        sentence("how many come; -2: a FAULT (none come)");
        expand(x, "a b");
        due("-2", expand(x, "a f("), -2);
        due("none come", token(x, 0, 0), THREW);
        due("no byte of one", x.tokenAt(0, 0), -1);
        due("empty then", x.count(3), 0);
        due("30 tokens", expand(x, "f(" + times("1 ", 16) + ")") == -2 ? bad(x) : "", "6 -1 -1 0");
        HideSets y = rich();
        String kept = told(y);
        expand(y, "\"");
        due("files, switches, setting stay", told(y), kept);
    }

    private static void valueCall() {
        sentence("The tape tells E: its worth by the MACROS as of expand()");
        HideSets x = new HideSets();
        due("ahead of any run", worth(x, "a+1"), "1");
        file(x, 0, "#define a 5", "#define e");
        x.run(0);
        due("by macros", worth(x, "a+1"), "6");
        due("empty then", x.count(3), 0);
        due("440 bytes", worth(x, "1" + times("+1", 219) + " "), "220");
        due("100 expansions", worth(x, "1" + times(" e", 100)), "1");
        due("anew", worth(x, "1" + times(" e", 100)), "1");
        due("101", worth(x, "1" + times(" e", 101)), "7@202");
        due("they are not counted", x.now(6) + macro(x, 1, 5) + x.now(9), 0);
        due("NONE as a worth", worth(x, "-1"), "-1");
        due("no fault with it", x.fault(0), 0);

        sentence("NoSuchElementException: a FAULT");
        due("nothing", worth(x, ""), "8@0");
        due("a byte", worth(x, "1 \n"), "1@2");
        due("a byte ahead of all else", worth(x, ") \" \u0080"), "1@4");
        due("no token", worth(x, ") \""), "1@2");
        due("division", worth(x, "1/0"), "9@1");
        due("empty then", x.count(3), 0);
        due("the most", worth(x, "9223372036854775807"), "9223372036854775807");
        due("the least", worth(x, "0x8000000000000000"), "-9223372036854775808");
        HideSets y = rich();
        String tokens = all(y) + places(y);
        due("a fault", valueOf(tell(y, "\"")), THREW);
        due("the tokens stay", all(y) + places(y), tokens);
        due("of a made one, too", worth(y, "0 G1(a)").equals("8@2") ? all(y) + places(y) : "", tokens);
    }

    private static void tokenCalls() {
        sentence("Of the k-th TOKEN (from 0) that came by the latest run() or expand() that was not NONE");
        HideSets x = ran("a", "b \"");
        due("of a run with a fault", all(x), "a");
        x.run(2);
        due("not of one that is NONE", all(x), "a");
        expand(x, "c d");
        due("of expand", all(x), "c d");
        worth(x, "1");
        due("not of value", all(x), "c d");
        file(x, 0, "zz");
        x.outcomes(0);
        due("not of others", all(x), "c d");
        x.run(0);
        due("of run", all(x), "zz");

        sentence("NoSuchElementException: none such, another what");
        due("the last", token(x, 0, 6), 0);
        due("one beyond", token(x, 1, 0), THREW);
        due("-1", token(x, -1, 0), THREW);
        due("the most", token(x, MOST, 0), THREW);
        due("the least", token(x, LEAST, 0), THREW);
        due("what 7", token(x, 0, 7), THREW);
        due("what -1", token(x, 0, -1), THREW);
        due("what of the most", token(x, 0, MOST), THREW);
        due("what of the least", token(x, 0, LEAST), THREW);
        due("both", token(x, 1, 7), THREW);
        expand(x, times("+", 440));
        due("the 440th", token(x, 439, 0), 3);
        due("a 441st", token(x, 440, 0), THREW);
        file(x, 0, times("+", 300));
        x.run(0);
        due("the 300th", token(x, 299, 4), 299);
        due("a 301st", token(x, 300, 4), THREW);

        sentence("Byte i of it; NONE: none such");
        expand(x, "abc " + times("z", 29) + "y");
        due("first", x.tokenAt(0, 0), 'a');
        due("last", x.tokenAt(0, 2), 'c');
        due("beyond", x.tokenAt(0, 3), -1);
        due("-1", x.tokenAt(0, -1), -1);
        due("the most", x.tokenAt(0, MOST), -1);
        due("the least", x.tokenAt(0, LEAST), -1);
        due("the 30th", x.tokenAt(1, 29), 'y');
        due("a 31st", x.tokenAt(1, 30), -1);
        due("no such token", x.tokenAt(2, 0), -1);
        due("token -1", x.tokenAt(-1, 0), -1);
        due("token of the most", x.tokenAt(MOST, 0), -1);
        due("token of the least", x.tokenAt(LEAST, 0), -1);
    }

    private static void macroCalls() {
        sentence("Of MACRO m as the latest run() left it: 0 whether it is defined (1, 0), 1 how many PARAMETERS (NONE: without)");
        HideSets x = ran("#define a", "#define b()", "#define c(x)", "#define d(x,y,z,u) " + times("1 ", 20), "#define e", "#undef e");
        int[][] want = {{1, -1, 0, 0, 0, 0}, {1, 0, 0, 0, 1, 0}, {1, 1, 0, 0, 2, 0}, {1, 4, 20, 0, 3, 0}, {0, -1, -1, -1, -1, 0}};
        for (int m = 0; m < want.length; m++) {
            for (int what = 0; what < 6; what++) {
                due("macro(" + m + ", " + what + ")", macro(x, m, what), want[m][what]);
            }
        }
        expand(x, "a a a");
        due("expand leaves them", macro(x, 0, 5), 0);
        file(x, 0, "");
        x.run(3);
        due("one that is NONE leaves them", x.now(0), 5);
        x.run(0);
        due("the next run has its own", x.now(0), 0);

        sentence("(NONE: a SWITCH; of all these of one that is undefined: NONE), 5 how often it was replaced");
        switches(x, "s t");
        x.set(1);
        file(x, 0, "s s", "#undef s", "s");
        x.run(0);
        due("undefined", macro(x, 0, 0), 0);
        due("of all these NONE", macro(x, 0, 1) + macro(x, 0, 2) + macro(x, 0, 3) + macro(x, 0, 4), -4);
        due("how often", macro(x, 0, 5), 2);
        due("never defined", macro(x, 1, 0) * 10 + macro(x, 1, 2), -1);
        due("never", macro(x, 1, 5), 0);
        file(x, 0, "#define r 1", "r", "#undef r", "#define r(x) 2", "r", "r(1)", "#if r(2)", "#endif");
        x.run(0);
        due("over all its bodies", macro(x, 2, 5), 3);
        due("the latest of them", macro(x, 2, 1) * 10 + macro(x, 2, 4), 13);

        sentence("NoSuchElementException: none such, another what ");
        due("the last", macro(x, 2, 5), 3);
        due("one beyond", macro(x, 3, 0), THREW);
        due("-1", macro(x, -1, 0), THREW);
        due("the most", macro(x, MOST, 0), THREW);
        due("the least", macro(x, LEAST, 0), THREW);
        due("what 6", macro(x, 0, 6), THREW);
        due("what -1", macro(x, 0, -1), THREW);
        due("what of the most", macro(x, 0, MOST), THREW);
        due("what 6 of one that is undefined", macro(x, 1, 6), THREW);
        StringBuilder twelve = new StringBuilder();
        for (int i = 0; i < 12; i++) {
            twelve.append("#define ").append((char) ('a' + i)).append(i).append('\n');
        }
        x = ran(twelve.toString());
        due("the 12th", macro(x, 11, 4), 11);
        due("a 13th", macro(x, 12, 0), THREW);

        sentence("Byte i of its NAME; NONE: none such");
        due("first", x.macroAt(11, 0), 'l');
        due("last", x.macroAt(11, 2), '1');
        due("beyond", x.macroAt(11, 3), -1);
        due("-1", x.macroAt(11, -1), -1);
        due("the most", x.macroAt(11, MOST), -1);
        due("the least", x.macroAt(11, LEAST), -1);
        due("a 13th", x.macroAt(12, 0), -1);
        due("macro -1", x.macroAt(-1, 0), -1);
        due("macro of the most", x.macroAt(MOST, 0), -1);
        due("macro of the least", x.macroAt(LEAST, 0), -1);
        x = ran("#define " + times("q", 29) + "r", "#undef " + times("q", 29) + "r");
        due("the 30th", x.macroAt(0, 29), 'r');
        due("a 31st", x.macroAt(0, 30), -1);
        switches(x, times("s", 29) + "t");
        x.run(0);
        due("the 30th of a switch", x.macroAt(0, 29), 't');
        due("a 31st of a switch", x.macroAt(0, 30), -1);
    }

    private static void nowCall() {
        sentence("Of the latest run(): 0 MACROS numbered");
        HideSets x = ran("#define a", "#undef a", "#define b", "#define a");
        due("two", x.now(0), 2);

        sentence("1 TEXT LINES passed on (empty ones, too), 2 LINES skipped");
        x = ran("", "a", "#if 0", "b", "", "#endif", "#");
        due("two and two", x.now(1) * 10 + x.now(2), 22);
        x = ran("a", "b \"");
        due("not the line of a fault", x.now(1), 1);

        sentence("3 INCLUDES begun, 4 spared, 5 the most within one another");
        x = with("#include 1", "#include 2", "#include 3");
        file(x, 1, "#include 2", "#include 3");
        file(x, 2, "#ifndef G", "#define G", "#include 3", "#endif");
        file(x, 3, "x");
        x.run(0);
        due("five, one, three", x.now(3) * 100 + x.now(4) * 10 + x.now(5), 513);
        x.run(3);
        due("none", x.now(3) + x.now(4) + x.now(5), 0);
        file(x, 3, "\"");
        x.run(0);
        due("begun, though with a fault", x.now(3) * 10 + x.now(5), 33);

        sentence("6 EXPANSIONS begun, 7 TOKENS pasted of two, 8 STRINGS made by #");
        x = ran("#define f(x,y) x##y #x", "f(a,b) f(,b) f(a,) f(,)");
        due("four, one, four", x.now(6) * 100 + x.now(7) * 10 + x.now(8), 414);
        x = ran("#define f(x) x", "f(f(,))");
        due("begun, though with a fault", x.now(6), 1);

        sentence("9 conditions worked out (E, ifdef, ifndef; not that of a FAULT)");
        x = ran("#if 1", "#elif 1", "#endif", "#ifdef a", "#elif 0", "#else", "#endif", "#ifndef a", "#endif", "#if 0", "#if 1", "#endif", "#endif");
        due("five", x.now(9), 5);
        due("a fault in E", ran("#if 1/0").now(9), 0);
        due("a fault in ifdef", ran("#ifdef 1").now(9), 0);
        due("a fault behind it", ran("#if 1", "\"", "#endif").now(9), 1);

        sentence("NONE for another what");
        due("9", x.now(9), 5);
        due("10", x.now(10), -1);
        due("-1", x.now(-1), -1);
        due("the most", x.now(MOST), -1);
        due("the least", x.now(LEAST), -1);
        due("10 of a new object", new HideSets().now(10), -1);
    }

    private static void passedCall() {
        sentence("How often LINE l of FILE f was passed on, or done as a DIRECTIVE, by the latest run()");
        HideSets x = with("#include 1", "#include 1", "a", "", "#if 0", "b", "#endif");
        file(x, 1, "x", "#define q", "#undef q");
        x.run(0);
        due("once, not skipped ones", passes(x, 0), "1 1 1 1 1 0 1");
        due("twice", passes(x, 1), "2 2 2");
        file(x, 2, "y");
        due("told behind it", x.passed(2, 0), 0);
        x.run(2);
        due("the latest alone", passes(x, 0) + passes(x, 1) + passes(x, 2), "0 0 0 0 0 0 00 0 01");
        due("a new object", with("a").passed(0, 0), 0);
        x = with(times("#include 1\n", 12));
        file(x, 1, "x");
        x.run(0);
        due("twelve times", x.passed(1, 0), 12);

        sentence("(not the LINE of a FAULT, nor an include in which there was one)");
        file(x, 0, "#include 1", "#include 1", "z");
        file(x, 1, "#ifdef q", "\"", "#endif", "#define q", "w");
        x.run(0);
        due("the include", passes(x, 0), "1 0 0");
        due("the line", passes(x, 1), "2 0 1 1 1");
        file(x, 0, "#include 2");
        file(x, 2, "#include 1", "\"");
        x.run(0);
        due("each include", passes(x, 0) + " " + passes(x, 2), "0 1 0");
        file(x, 0, "#define 1");
        x.run(0);
        due("a directive", x.passed(0, 0), 0);
        file(x, 0, "#if 1/0");
        x.run(0);
        due("a condition", x.passed(0, 0), 0);

        sentence("NONE: there are no such ones now");
        file(x, 0, "a", "b");
        x.run(0);
        due("the last", x.passed(0, 1), 1);
        due("one beyond", x.passed(0, 2), -1);
        due("-1", x.passed(0, -1), -1);
        due("the most", x.passed(0, MOST), -1);
        due("the least", x.passed(0, LEAST), -1);
        due("file 3", x.passed(3, 0), -1);
        due("file 4", x.passed(4, 0), -1);
        due("file -1", x.passed(-1, 0), -1);
        due("file of the most", x.passed(MOST, 0), -1);
        x.drop(0, 1);
        due("dropped", x.passed(0, 1), -1);
        edit(x, 0, 1, "c");
        due("edited", x.passed(0, 1), 1);
        edit(x, 0, 2, "d");
        due("one more", x.passed(0, 2), 0);
        file(x, 0, "");
        due("no lines", x.passed(0, 0), -1);
    }

    private static void studies() {
        sentence("By which SETTINGS (bits, the lowest for 0) that is 1 or more, when FILE k is RUN (as far as its FAULT)");
        HideSets x = with("x");
        due("no switches", x.presence(0, 0, 0), 1);
        switches(x, "a b c");
        due("all of three", x.presence(0, 0, 0), 255);
        file(x, 0, "#if a+b+c>1", "x", "#endif", "#ifdef c", "\"", "#endif", "y");
        due("some", x.presence(0, 0, 1), 232);
        due("behind a fault", x.presence(0, 0, 6), 15);
        due("the fault's own", x.presence(0, 0, 4), 0);
        file(x, 1, "#include 0");
        due("of another file", x.presence(1, 0, 6), 15);
        due("the include", x.presence(1, 1, 0), 15);
        due("not the other way", x.presence(0, 1, 0), 0);

        sentence("NONE: no such ones");
        due("the last", x.presence(0, 0, 6), 15);
        due("one beyond", x.presence(0, 0, 7), -1);
        due("-1", x.presence(0, 0, -1), -1);
        due("file f not told", x.presence(0, 2, 0), -1);
        due("file f 4", x.presence(0, 4, 0), -1);
        due("file f -1", x.presence(0, -1, 0), -1);
        due("file k not told", x.presence(2, 0, 0), -1);
        due("file k 4", x.presence(4, 0, 0), -1);
        due("file k -1", x.presence(-1, 0, 0), -1);
        due("the most", x.presence(MOST, MOST, MOST), -1);
        due("the least", x.presence(LEAST, LEAST, LEAST), -1);
        due("like beyond", x.like(0, 8), -1);
        due("like, the last", x.like(0, 7), 5);
        due("like below", x.like(0, -1), -1);
        due("like of the most", x.like(0, MOST), -1);
        due("like of the least", x.like(0, LEAST), -1);
        due("like of a file not told", x.like(2, 0), -1);
        due("like of file 4", x.like(4, 0), -1);

        sentence("How many unlike outcomes RUNS of FILE k have by all SETTINGS (TOKENS by their bytes; FAULTS by kind, FILE, LINE, place)");
        switches(x, "");
        due("no switches", x.outcomes(0), 1);
        switches(x, "a b c");
        file(x, 0, "a b c");
        due("all eight", x.outcomes(0), 8);
        file(x, 0, "");
        due("nothing", x.outcomes(0), 1);
        file(x, 0, "#ifdef a", "p q", "#else", "pq", "#endif");
        due("tokens, not bytes alone", x.outcomes(0), 2);
        file(x, 0, "#ifdef a", "p q", "#else", "  p   ", "q", "#endif");
        due("neither blanks nor origins", x.outcomes(0), 1);
        file(x, 0, "#define m p", "#ifdef a", "m", "#else", "p", "#endif");
        due("nor hide sets", x.outcomes(0), 1);
        file(x, 0, "#ifdef a", "p", "#endif", "\"");
        due("tokens with the same fault", x.outcomes(0), 2);
        file(x, 0, "#ifdef a", "#include 1", "#endif", "\"");
        file(x, 1, "", "", "", "\"");
        due("faults by file", x.outcomes(0), 2);
        file(x, 0, "#ifdef a", "\"", "#else", "\"", "#endif");
        due("by line", x.outcomes(0), 2);
        file(x, 0, "#if 1/a", "#endif");
        due("by fault or none", x.outcomes(0), 2);
        file(x, 0, "#ifdef a", "#define d 1/0", "#else", "#define d ( 0", "#endif", "#if d");
        due("by kind, and place", x.outcomes(0), 2);
        file(x, 0, "#ifdef a", "#define d 1/0", "#else", "#define d 1/0", "#endif", "#if d");
        due("not by what was done", x.outcomes(0), 1);
        file(x, 0, "#ifdef a", "#define d ;", "#else", "#define d", "#endif", "#if 1 d");
        due("by place alone", x.outcomes(0), 2);
        file(x, 0, "#ifdef a", "#define d 1 1", "#else", "#define d 1/0", "#endif", "#if d");
        due("by kind alone", x.outcomes(0), 2);

        file(x, 0, "#if 1/a+" + times("0+", 126) + "1/(1-a)");
        due("by place, 256 bytes apart", x.outcomes(0), 2);
        file(x, 0, "#define k(x,y) x##y #x", "#define j(x,y) k(x,y)", "j(a,1)");
        due("of what is made", x.outcomes(0), 2);
        file(x, 0, "#include 1", "#include 2", times("m ", 25));
        file(x, 1, "#define m " + times(times("x", 30) + " ", 12));
        file(x, 2, "");
        due("300 tokens of 30 bytes, all alike", x.outcomes(0), 1);
        file(x, 2, "#define n " + times(times("x", 30) + " ", 11) + "p");
        file(x, 0, "#include 1", "#include 2", "#ifdef c", "#define p " + times("x", 29), "#else", "#define p " + times("x", 30), "#endif",
                times("m ", 24) + "n");
        due("300 tokens, unlike in the last byte", x.outcomes(0) * 10 + x.like(0, 7), 24);

        sentence("by all SETTINGS: those of the SWITCHES that there are now");
        file(x, 0, "a b c");
        due("eight", x.outcomes(0), 8);
        switches(x, "a");
        due("two", x.outcomes(0), 2);
        file(x, 0, "x");
        due("one", x.outcomes(0) * 10 + x.depends(0), 10);
        switches(x, "");
        due("one alone", x.outcomes(0) * 10 + x.depends(0), 10);
        switches(x, "a b c");
        due("of file()", file(x, 0, "a b c", "c") * 10 + x.outcomes(0), 28);
        due("of edit()", edit(x, 0, 0, "x") * 10 + x.outcomes(0), 22);
        due("of drop()", x.drop(0, 1) * 10 + x.outcomes(0), 11);
        x.image(0);
        edit(x, 0, 0, "a");
        due("of the file as it is", x.outcomes(0), 2);
        x.restore(0);
        due("of restore()", x.outcomes(0), 1);

        sentence("The least SETTING of an outcome like that of this one");
        file(x, 0, "#if a+b+c==1", "x", "#elif c", "y", "#endif");
        int[] want = {0, 1, 1, 0, 1, 5, 5, 5};
        for (int s = 0; s < 8; s++) {
            due("like " + s, x.like(0, s), want[s]);
        }

        sentence("SWITCHES, as bits, that change the outcome by some SETTING, if they alone are otherwise; NONE: it was not told");
        due("all", x.depends(0), 7);
        file(x, 0, "#if a&&c", "x", "#endif");
        due("by one pair of settings alone", x.depends(0), 5);
        file(x, 0, "x");
        due("none", x.depends(0), 0);
        file(x, 0, "#ifdef b", "\"", "#endif");
        due("by a fault", x.depends(0), 2);
        due("not told", x.depends(3), -1);
        due("no such", x.depends(4), -1);
        due("-1", x.depends(-1), -1);
        due("the most", x.depends(MOST), -1);
        due("outcomes of one not told", x.outcomes(3), -1);
        due("outcomes of no such", x.outcomes(4), -1);
        due("outcomes of -1", x.outcomes(-1), -1);
        due("outcomes of the least", x.outcomes(LEAST), -1);
        HideSets y = rich();
        String before = asked(y);
        y.outcomes(1);
        y.depends(1);
        y.like(1, 3);
        y.presence(1, 1, 2);
        due("nothing is changed by asking", asked(y) + y.count(3), before + "4");
    }

    private static void guardCalls() {
        sentence("FILE k is GUARDED: how many bytes its NAME has; 0: it is not; NONE: it was not told");
        HideSets x = with("#ifndef " + times("G", 30), "#endif");
        due("30", x.guard(0), 30);
        file(x, 1, "");
        due("not", x.guard(1), 0);
        due("not told", x.guard(2), -1);
        due("4", x.guard(4), -1);
        due("-1", x.guard(-1), -1);
        due("the most", x.guard(MOST), -1);
        due("the least", x.guard(LEAST), -1);

        sentence("Byte i of the NAME by the latest guard() above 0; NONE: none such, or ahead of any");
        due("ahead of any", with("#ifndef G", "#endif").guardAt(0), -1);
        due("0 and NONE leave it", x.guardAt(0), 'G');
        due("the 30th", x.guardAt(29), 'G');
        due("a 31st", x.guardAt(30), -1);
        due("-1", x.guardAt(-1), -1);
        due("the most", x.guardAt(MOST), -1);
        due("the least", x.guardAt(LEAST), -1);
        file(x, 0, "x");
        due("of the file as it was", x.guardAt(29), 'G');
        file(x, 0, "#ifndef ab", "#endif");
        due("not by file()", x.guardAt(0), 'G');
        x.guard(0);
        due("by guard()", guardName(x), "ab");
        edit(x, 0, 0, "#ifndef c");
        due("after an edit", x.guard(0), 1);
        due("its name", guardName(x), "c");
        x.drop(0, 1);
        due("after a drop", x.guard(0), 0);
        due("its name stays", guardName(x), "c");
        refused("guard of one not told", y -> y.guard(3), -1, 4);

        sentence("The LINE of the same group that comes next behind LINE l of FILE f (LINES looked at as skipped ones are)");
        x = with("#if", "#elif \"", "#if", "#else", "#endif", "#else x", "#endif", "a");
        due("all", nexts(x, 0), "1 5 3 4 -1 6 -1 -1");
        file(x, 0, "  #  ifdef", "##else", "# elsex", "#", "#endif/");
        due("those that are none", nexts(x, 0), "4 -1 -1 -1 -1");
        file(x, 0, times("#if\n", 20) + times("#endif\n", 20));
        due("the outermost of twenty", x.nextOf(0, 0), 39);
        due("the innermost of twenty", x.nextOf(0, 19), 20);

        sentence("NONE: it is of no group, none comes, no such ones");
        file(x, 0, "#endif", "#else", "#elif", "a", "#if", "#else");
        due("of no group", nexts(x, 0), "-1 -1 -1 -1 5 -1");
        file(x, 1, "#else", "#elif", "#endif");
        due("of no group, at once", nexts(x, 1), "-1 -1 -1");
        due("one beyond", x.nextOf(0, 6), -1);
        due("-1", x.nextOf(0, -1), -1);
        due("the most", x.nextOf(0, MOST), -1);
        due("the least", x.nextOf(0, LEAST), -1);
        due("file 3", x.nextOf(3, 0), -1);
        due("file 4", x.nextOf(4, 0), -1);
        due("file -1", x.nextOf(-1, 0), -1);
        due("file of the most", x.nextOf(MOST, 0), -1);
    }

    private static void editAndDrop() {
        sentence("LINE l of FILE f is the tape, the others stay; l may be as many as there are (one more): how many LINES");
        HideSets x = with("a", "b", "c");
        due("first", edit(x, 0, 0, "x y z"), 3);
        due("last", edit(x, 0, 2, "w"), 3);
        due("one more", edit(x, 0, 3, "v"), 4);
        due("to nothing", edit(x, 0, 1, ""), 4);
        due("empty then", x.count(3), 0);
        x.run(0);
        due("the others stay", all(x) + each(x, 3), "x y z.w.v0 0 0 2 3");
        file(x, 1, "");
        due("the first of no lines", edit(x, 1, 0, "q"), 1);
        file(x, 1, "");
        due("an empty one more", edit(x, 1, 0, ""), 1);
        due("and one more", edit(x, 1, 1, ""), 2);
        file(x, 1, "a\nb");
        due("behind one without 10", edit(x, 1, 2, "c"), 3);
        x.run(1);
        due("its tokens", all(x), "a.b.c");

        sentence("-2: no such ones");
        refused("one beyond", y -> edit(y, 0, 5, "x"), -2, 0);
        refused("-1", y -> edit(y, 0, -1, "x"), -2, 0);
        refused("the most", y -> edit(y, 0, MOST, "x"), -2, 0);
        refused("the least", y -> edit(y, 0, LEAST, "x"), -2, 0);
        refused("file 3", y -> edit(y, 3, 0, "x"), -2, 0);
        refused("file 4", y -> edit(y, 4, 0, "x"), -2, 0);
        refused("file -1", y -> edit(y, -1, 0, "x"), -2, 0);
        refused("ahead of a byte", y -> edit(y, 3, 0, "\t"), -2, 0);
        refused("ahead of too many", y -> edit(y, 0, 5, times("x", 440)), -2, 0);

        sentence("-1000 less the place of a byte that can't be (10, too)");
        refused("10", y -> edit(y, 0, 0, "a\n"), -1001, 0);
        refused("10 alone", y -> edit(y, 0, 0, "\n"), -1000, 0);
        refused("31", y -> edit(y, 0, 0, "ab\u001f"), -1002, 0);
        refused("127", y -> edit(y, 0, 4, "\u007f"), -1000, 0);
        refused("the last of 440", y -> edit(y, 0, 0, times("a", 439) + "\u00ff"), -1439, 0);
        due("32 and 126", edit(x, 0, 0, " ~"), 4);

        sentence("-3 LINES, each with a 10 behind it, would have more than 400 bytes, or be more than 40: all stays");
        x = with("a");
        due("398", edit(x, 0, 0, times("a", 398)), 1);
        due("399", edit(x, 0, 0, times("a", 399)), 1);
        due("400", edit(x, 0, 0, times("a", 400)), -3);
        due("440", edit(x, 0, 0, times("a", 440)), -3);
        due("an empty one more", edit(x, 0, 1, ""), -3);
        due("one line stays", x.lines(0), 1);
        edit(x, 0, 0, times("a", 398));
        due("one more of none", edit(x, 0, 1, ""), 2);
        due("a byte more", edit(x, 0, 1, "a"), -3);
        file(x, 0, times("b", 400));
        due("one that had no room for its 10", edit(x, 0, 0, times("c", 400)), -3);
        due("behind it", edit(x, 0, 1, ""), -3);
        due("it is there still", x.lines(0), 1);
        due("shorter", edit(x, 0, 0, "c"), 1);
        file(x, 0, times("b", 10), times("b", 389));
        due("400 without the last 10, another line shorter by 1", edit(x, 0, 0, times("c", 9)), 2);
        file(x, 0, times("b", 10), times("b", 389));
        due("as long", edit(x, 0, 0, times("c", 10)), -3);
        file(x, 0, times("123456789\n", 39) + "123456789");
        due("full, changed", edit(x, 0, 39, "987654321"), 40);
        due("full, longer", edit(x, 0, 39, "9876543210"), -3);
        file(x, 0, times("\n", 39));
        due("a 40th", edit(x, 0, 39, "z"), 40);
        due("a 41st", edit(x, 0, 40, ""), -3);
        due("one of 40", edit(x, 0, 0, "y"), 40);
        x.run(0);
        due("the first and the last", all(x) + each(x, 3), "y.z0 39");
        refused("too many bytes", y -> edit(y, 0, 1, times("x", 400)), -3, 0);
        refused("too many bytes, one more", y -> edit(y, 0, 4, times("x", 400)), -3, 0);
        HideSets full = with(times("\n", 40));
        edit(full, 0, 40, "x");
        due("all stays", full.lines(0) * 10 + full.run(0), 400);

        sentence("LINE l of FILE f is taken out: how many are left; NONE: no such ones");
        x = with("a", "bb", "ccc", "dddd");
        due("the second", x.drop(0, 1), 3);
        due("the last", x.drop(0, 2), 2);
        x.run(0);
        due("the others", all(x), "a.ccc");
        due("the first", x.drop(0, 0), 1);
        due("all", x.drop(0, 0), 0);
        due("it is told still", x.count(0) * 10 + x.lines(0), 10);
        due("none is left", x.drop(0, 0), -1);
        file(x, 0, times("a\n", 40));
        due("of 40", x.drop(0, 39), 39);
        due("room again", edit(x, 0, 39, "b"), 40);
        tell(x, "tape");
        x.drop(0, 0);
        due("the tape stays", x.count(3), 4);
        file(x, 0, times("b", 400));
        due("one of 400", x.drop(0, 0), 0);
        refused("one beyond", y -> y.drop(0, 4), -1, 4);
        refused("-1", y -> y.drop(0, -1), -1, 4);
        refused("the most", y -> y.drop(0, MOST), -1, 4);
        refused("the least", y -> y.drop(0, LEAST), -1, 4);
        refused("of no lines", y -> y.drop(2, 0), -1, 4);
        refused("file 3", y -> y.drop(3, 0), -1, 4);
        refused("file 4", y -> y.drop(4, 0), -1, 4);
        refused("file -1", y -> y.drop(-1, 0), -1, 4);
        HideSets y = rich();
        String results = bad(y) + nows(y) + all(y) + guardName(y);
        y.drop(0, 0);
        edit(y, 0, 0, "x");
        due("what was run stays", bad(y) + nows(y) + all(y) + guardName(y), results);
    }

    private static void images() {
        sentence("FILES, SWITCHES and SETTING are kept in place k (0, 1): true; false: no such one");
        refused("2", y -> y.image(2) ? 1 : 0, 0, 4);
        refused("-1", y -> y.image(-1) ? 1 : 0, 0, 4);
        refused("the most", y -> y.image(MOST) ? 1 : 0, 0, 4);
        refused("the least", y -> y.image(LEAST) ? 1 : 0, 0, 4);
        HideSets x = new HideSets();
        due("nothing told", x.image(0), true);
        file(x, 0, "one");
        switches(x, "a");
        x.set(1);
        due("0", x.image(0), true);
        file(x, 0, "two", "three");
        switches(x, "b c");
        x.set(2);
        due("1", x.image(1), true);
        due("what is, stays", x.lines(0) * 100 + x.count(1) * 10 + x.count(2), 222);
        x.restore(0);
        due("0 again", x.lines(0) * 100 + x.count(1) * 10 + x.count(2), 111);
        x.restore(1);
        due("1 again", x.lines(0) * 100 + x.count(1) * 10 + x.count(2), 222);
        x.image(0);
        x.restore(0);
        due("the latest image", x.lines(0), 2);

        sentence("They are as kept in place k (all that was told, the tape stay): true");
        x = rich();
        String results = bad(x) + nows(x) + all(x) + places(x) + guardName(x) + macro(x, 2, 5) + macroName(x, 2);
        due("restore", x.restore(0), true);
        due("as kept", x.count(0) * 100 + x.count(1) * 10 + x.count(2), 111);
        due("files that were not told then", x.lines(1), -1);
        due("what was told stays", bad(x) + nows(x) + all(x) + places(x) + guardName(x) + macro(x, 2, 5) + macroName(x, 2), results);
        due("the tape stays", x.count(3), 4);
        due("expand by the macros of the run", expand(x, "G1(z)") == 2 ? all(x) : "", "\"z\" 1");
        due("passed() of lines that are there now", x.passed(0, 1) * 10 + x.passed(0, 2), 9);
        file(x, 0, "changed");
        due("again", x.restore(0), true);
        due("an image is not changed by what comes then", x.lines(0), 2);
        edit(x, 0, 0, "changed");
        x.drop(0, 1);
        switches(x, "");
        x.restore(0);
        x.run(0);
        due("nor by edits", all(x) + x.count(1), "other.image1");
        due("outcomes by what is restored", x.outcomes(0), 1);

        x = with(times("123456789\n", 39) + "abcdefghi");
        file(x, 1, "", "", "#ifndef guarded", "#endif");
        switches(x, "abc d");
        x.set(3);
        x.image(1);
        file(x, 0, times("\n", 40));
        file(x, 1, "#ifndef g", "#endif");
        switches(x, "x yz");
        x.restore(1);
        x.run(0);
        due("a full file", x.lines(0) + word(x, 39) + token(x, 39, 3), "40abcdefghi39");
        due("names of switches", macroName(x, 0) + macroName(x, 1), "abcd");
        x.guard(1);
        due("a guard's name", guardName(x), "guarded");
        file(x, 2, "#define guarded", "#include 1");
        x.run(2);
        due("a guard", x.now(4), 1);

        sentence("false: no such one, or nothing is kept there");
        refused("1, nothing kept", y -> y.restore(1) ? 1 : 0, 0, 4);
        refused("2", y -> y.restore(2) ? 1 : 0, 0, 4);
        refused("-1", y -> y.restore(-1) ? 1 : 0, 0, 4);
        refused("the most", y -> y.restore(MOST) ? 1 : 0, 0, 4);
        refused("the least", y -> y.restore(LEAST) ? 1 : 0, 0, 4);
    }

    private static void counts() {
        sentence("0 FILES that were told, 1 SWITCHES, 2 SETTING, 3 bytes of the tape. NONE for another what");
        HideSets x = new HideSets();
        for (int k = 0; k < 4; k++) {
            file(x, k, "");
            due("files", x.count(0), k + 1);
        }
        file(x, 2, "a");
        due("again", x.count(0), 4);
        switches(x, "a b c");
        x.set(7);
        due("switches, setting", x.count(1) * 10 + x.count(2), 37);
        due("no bytes", x.count(3), 0);
        x.feed(0, 0, 0, 0, 0);
        due("bytes", x.count(3), 20);
        due("4", x.count(4), -1);
        due("-1", x.count(-1), -1);
        due("the most", x.count(MOST), -1);
        due("the least", x.count(LEAST), -1);

        sentence("LINES of FILE k; NONE: it was not told");
        x = new HideSets();
        file(x, 0, "");
        file(x, 1, times("\n", 40));
        due("0", x.lines(0), 0);
        due("40", x.lines(1), 40);
        due("not told", x.lines(2), -1);
        due("4", x.lines(4), -1);
        due("-1", x.lines(-1), -1);
        due("the most", x.lines(MOST), -1);
        due("the least", x.lines(LEAST), -1);

        sentence("An object is used for at most 512 calls after it has been made");
        x = with("#define f(x) x x", "f(f(1)) s", "#if s", "t", "#endif");
        switches(x, "s t u");
        for (int n = 0; n < 120; n++) {
            x.set(n & 7);
            due("run " + n, x.run(0), 5 + (n & 1));
            due("outcomes " + n, x.outcomes(0), 3);
            due("fault " + n, x.fault(0), 0);
        }
    }

    /** One that makes as many bytes as a RUN can: 100 EXPANSIONS with nine pastes of long NAMES. */
    private static HideSets heavy() {
        HideSets x = with("#define f(x,y) x" + times("##y", 9), times("#include 1\n", 6) + "#include 2", uses('A', 10));
        file(x, 1, uses('a', 15));
        file(x, 2, "#define g f(" + times("z", 20) + ",y)");
        return x;
    }

    private static String uses(char first, int n) {
        StringBuilder b = new StringBuilder();
        for (int i = 0; i < n; i++) {
            b.append("f(").append(times("" + (char) (first + i), 20)).append(",b) ");
        }
        return b.toString();
    }

    private static void rooms() {
        sentence("tokens are pasted and lexed anew: there is room for all that can be made");
        HideSets x = heavy();
        String first = times("a", 20) + times("b", 9);
        String last = times("J", 20) + times("b", 9);
        for (int n = 0; n < 4; n++) {
            due("run " + n, x.run(0), 100);
        }
        due("all expansions", x.now(6) * 1000 + x.now(7), 100900);
        for (int n = 0; n < 4; n++) {
            due("value " + n, worth(x, "g" + times("+g", 49)), "0");
        }
        due("the first stays", word(x, 0), first);
        due("the last stays", word(x, 99), last);
        for (int n = 0; n < 7; n++) {
            due("expand " + n, expand(x, times("g ", 50)), 50);
        }
        due("the last of a tape", word(x, 49), times("z", 20) + times("y", 9));
        worth(x, "g" + times("+g", 49));
        due("it stays", word(x, 49), times("z", 20) + times("y", 9));
        switches(x, "s t u");
        due("outcomes", x.outcomes(0), 1);

        sentence("(all that was told, the tape stay): neither tapes nor what is made overwrite what came before");
        x = new HideSets();
        file(x, 3, times("123456789 ", 40));
        switches(x, "s t u");
        x.run(3);
        worth(x, times("1+", 219) + "1");
        due("a value behind a run", each(x, 1), times("9 ", 39) + "9");
        due("its last byte", word(x, 39) + word(x, 35), "123456789123456789");
        expand(x, times("abcdefghi ", 44));
        worth(x, times("1+", 219) + "1");
        due("a value behind an expand", word(x, 0) + word(x, 43), "abcdefghiabcdefghi");
        file(x, 0, "#define c(x,y) x##y #x");
        x.run(0);
        expand(x, "zz c(a,b) yy");
        due("made beside told", all(x), "zz ab \"a\" yy");
        worth(x, "c(1,2)");
        due("made by a value beside it", all(x), "zz ab \"a\" yy");
    }

    public static void main(String[] args) {
        newObject();
        feedAndEnd();
        fileCall();
        switchesCall();
        setCall();
        runCall();
        faultCall();
        expandCall();
        valueCall();
        tokenCalls();
        macroCalls();
        nowCall();
        passedCall();
        studies();
        guardCalls();
        editAndDrop();
        images();
        counts();
        rooms();
        close("edges of the calls");
    }
}
