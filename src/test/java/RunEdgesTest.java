/** The boundary cases of "==== 3.": a RUN, groups, GUARDED FILES and the FAULTS with their places. */
public final class RunEdgesTest extends Probe {
    private static final String FINE = "0 -1 -1 -1";

    private static void groups() {
        sentence("TEXT is passed on: EXPANDED, its TOKENS come out");
        HideSets x = ran("a", "", " ", "b");
        due("empty ones", x.now(1), 4);
        due("their tokens", all(x), "a.b");
        due("no lines", with("").run(0), 0);

        sentence("the LINES behind the first of its conditions that is not 0 (of 'else': if none was) up to its next one are run");
        due("1", allOf("#if 1", "a", "#elif 1", "b", "#else", "c", "#endif"), "a");
        due("not 0", allOf("#if -1", "a", "#endif", "#if 2", "b", "#endif", "#if 0x8000000000000000", "c", "#endif"), "a.b.c");
        due("the second", allOf("#if 0", "a", "#elif 2", "b", "#elif 1", "c", "#else", "d", "#endif"), "b");
        due("else", allOf("#if 0", "a", "#elif 0", "b", "#else", "c", "#endif", "d"), "c.d");
        due("none", allOf("#if 0", "a", "#elif 0", "b", "#endif"), "");
        due("ifdef", allOf("#define q", "#ifdef q", "a", "#else", "b", "#endif"), "a");
        due("ifndef", allOf("#define q", "#ifndef q", "a", "#else", "b", "#endif"), "b");
        due("ifdef and elif", allOf("#ifdef q", "a", "#elif 1", "b", "#endif"), "b");
        due("groups in groups", allOf("#if 1", "#if 0", "a", "#else", "b", "#endif", "c", "#endif"), "b.c");
        due("groups in skipped groups", allOf("#if 0", "#if 1", "a", "#else", "b", "#endif", "#else", "c", "#endif"), "c");
        due("nothing in it", allOf("#if 1", "#endif"), "");
        x = with(times("#if 1\n", 20) + times("#endif\n", 20));
        due("twenty in one another", x.run(0), 0);
        due("all done", x.now(9), 20);
        x = with(times("#if\n", 40));
        edit(x, 0, 0, "#if 0");
        x.run(0);
        due("forty, the innermost not ended", bad(x), "10 0 39 0");
        due("39 of them skipped", x.now(2), 39);

        sentence("all others are skipped: nothing of them is looked at but what they are of a group by the NAME behind their #");
        due("no tokens", allOf("#if 0", "\"", times("a", 31), "#endif"), "");
        due("no directives", allOf("#if 0", "#define", "#foo", "#include 9", "#undef", "#endif"), "");
        due("no conditions", ran("#if 0", "#if 1/0", "#endif", "#ifdef", "#endif", "#endif").now(9), 1);
        due("more behind else and endif", allOf("#if 0", "#if", "#elif \"", "#else x", "#endif \"", "#endif"), "");
        due("the whole name", allOf("#if 0", "#ifx", "#endifx", "#elsey", "#endif"), "");
        due("beside a sign", allOf("#if 0", "#if(1)", "#endif/", "#endif"), "");
        due("## is no #", allOf("#if 0", "##if", "##endif", "#endif"), "");
        due("a # in the middle is none", allOf("#if 0", "x #endif", "#endif"), "");
        due("a name behind another byte is none", allOf("#if 0", "xendif", "+endif", "a endif", "#endif", "xif 1", "+else"), "xif 1.+.else");
        due("two # are none", allOf("#if 0", "# #endif", "#endif"), "");
        due("a string is none", allOf("#if 0", "#\"endif\"", "#endif"), "");
        due("blanks", allOf("#if 0", "  #  endif  "), "");
        due("skipped ones counted", ran("#if 0", "", "x", "#if 1", "#endif", "#", "#endif").now(2), 5);

        sentence("A DIRECTIVE of a group that is not within skipped LINES is done, whichever");
        x = ran("#if 0", "a", "#elif 0", "b", "#else", "c", "#endif");
        due("each done", passes(x, 0), "1 0 1 0 1 1 1");
        x = ran("#if 1", "a", "#else", "#if 1", "#else", "#endif", "#endif");
        due("not those within skipped ones", passes(x, 0), "1 1 1 0 0 0 1");
        due("they are skipped", x.now(2), 3);
        due("a fault in one that ends skipped lines", badOf("#if 0", "#endif \""), "1 0 1 7");
        due("a fault in else", badOf("#if 1", "#else x", "#endif"), "2 0 1 6");

        sentence("an elif that is not needed (one ahead was not 0) is looked at as a skipped LINE is, but done, too");
        x = ran("#if 1", "#elif \"", "a", "#elif", "#elif 1/0", "#endif");
        due("no fault", bad(x), FINE);
        due("done", passes(x, 0), "1 1 0 1 1 1");
        due("not skipped", x.now(2), 1);
        due("no condition", x.now(9), 1);
        due("behind the first that is not 0", badOf("#if 0", "#elif 1", "#elif 1/0", "#endif"), FINE);
        due("a needed one", badOf("#if 0", "#elif 1/0", "#endif"), "9 0 1 7");
        due("a needed one's tokens", badOf("#if 0", "#elif \"", "#endif"), "1 0 1 6");
        due("a needed one of nothing", badOf("#if 0", "#elif ", "#endif"), "8 0 1 6");
    }

    private static void guards() {
        sentence("GUARDED by a NAME is a FILE whose first LINE with TOKENS is just # ifndef NAME");
        due("at once", guarded("#ifndef A", "#endif"), 1);
        due("blanks, empty lines", guarded("", "  ", "  #  ifndef   A  ", "#endif"), 1);
        due("a name of 30", guarded("#ifndef " + times("A", 30), "#endif"), 30);
        due("of 31", guarded("#ifndef " + times("A", 31), "#endif"), 0);
        due("no name", guarded("#ifndef", "#endif"), 0);
        due("a number", guarded("#ifndef 1", "#endif"), 0);
        due("more", guarded("#ifndef A B", "#endif"), 0);
        due("more, a sign", guarded("#ifndef A;", "#endif"), 0);
        due("more, no token", guarded("#ifndef A \"", "#endif"), 0);
        due("ifdef", guarded("#ifdef A", "#endif"), 0);
        due("if", guarded("#if !defined A", "#endif"), 0);
        due("text ahead", guarded("x", "#ifndef A", "#endif"), 0);
        due("# alone ahead", guarded("#", "#ifndef A", "#endif"), 0);
        due("a directive ahead", guarded("#define A", "#ifndef A", "#endif"), 0);
        due("no token ahead", guarded("\"", "#ifndef A", "#endif"), 0);
        due("no lines", guarded(""), 0);
        due("empty lines alone", guarded("", " ", ""), 0);

        sentence("whose last one is the # endif of that group");
        due("empty lines behind", guarded("#ifndef A", "#endif", "", " "), 1);
        due("text behind", guarded("#ifndef A", "#endif", "x"), 0);
        due("# alone behind", guarded("#ifndef A", "#endif", "#"), 0);
        due("another group's", guarded("#ifndef A", "#endif", "#ifndef B", "#endif"), 0);
        due("an inner group's", guarded("#ifndef A", "#if 1", "#endif"), 0);
        due("not ended", guarded("#ifndef A", "x"), 0);
        due("the first alone", guarded("#ifndef A"), 0);
        due("ended twice", guarded("#ifndef A", "#endif", "#endif"), 0);
        due("inner groups ended", guarded("#ifndef A", "#if", "#ifdef", "#endif", "#endif", "#endif"), 1);

        sentence("and that group has no elif and else (LINES looked at as skipped ones are)");
        due("elif", guarded("#ifndef A", "#elif 1", "#endif"), 0);
        due("else", guarded("#ifndef A", "#else", "#endif"), 0);
        due("those of inner groups", guarded("#ifndef A", "#if", "#elif", "#else", "#else", "#endif", "#endif"), 1);
        due("faults within", guarded("#ifndef A", "\"", "#foo", "#define", "#endif"), 1);
        due("more behind endif", guarded("#ifndef A", "#endif \""), 1);

        sentence("Such a FILE is not run, if the NAME is a MACRO when it is included: it is spared");
        HideSets x = with("#define A", "#include 1", "#undef A", "#include 1", "x");
        file(x, 1, "#ifndef A", "in", "#endif");
        due("tokens", x.run(0), 2);
        due("one begun, one spared", x.now(3) * 10 + x.now(4), 11);
        due("the spared one is not looked at", passes(x, 1), "1 1 1");
        due("nor are its lines skipped", x.now(2), 0);
        due("the include is done", passes(x, 0), "1 1 1 1 1");
        x.run(1);
        due("the file that is run is none that is included", x.now(3) + x.now(4), 0);
        switches(x, "A");
        x.set(1);
        x.run(1);
        due("it is run, whatever is a macro", passes(x, 1) + " " + x.now(2), "1 0 1 1");
        file(x, 2, "#include 1");
        x.run(2);
        due("a switch is a macro", x.now(4), 1);
        file(x, 1, "#ifndef A", "\"", "#endif x");
        x.run(2);
        due("one with faults is spared", bad(x) + x.now(4), FINE + "1");
        file(x, 1, "#ifndef A", "#define f(x) x", "#endif");
        file(x, 2, "#undef A", "#define A(x) x", "#include 1");
        x.run(2);
        due("a macro with parameters", x.now(4), 1);
    }

    private static int guarded(String... lines) {
        return with(lines).guard(0);
    }

    private static void faultsOfTokens() {
        sentence("the first that is met");
        due("lines", badOf("a", "b \"", "#foo"), "1 0 1 2");
        due("tokens of a line", badOf("a \" b", times("c", 31)), "1 0 0 2");
        due("the first name of a line", badOf("#define f(x) x", "f(1,2) f("), "4 0 1 0");

        sentence("a LINE's TOKENS are told apart ahead of all else, but for 10");
        due("ahead of 2", badOf("#foo a \""), "1 0 0 7");
        due("ahead of 3", badOf("#define f(x) x", "f( \""), "1 0 1 3");
        due("ahead of 5", badOf("#define a", "#define a \""), "1 0 1 10");
        due("ahead of 7", badOf("#define f(a,b,c,d,e) \""), "1 0 0 21");
        due("ahead of 8", badOf("#if ) \""), "1 0 0 6");
        due("ahead of 11", badOf("#include 9 \""), "1 0 0 11");
        due("10 ahead of them", badOf("#endif \""), "10 0 0 0");
        due("10 ahead of them, else", badOf(" # else \""), "10 0 0 1");
        due("10 ahead of them, elif", badOf("#if 1", "#else", "  #elif \""), "10 0 2 2");

        sentence("1 no TOKEN, a longer one (at it)");
        due("no token", badOf("ab  \"cd"), "1 0 0 4");
        due("a longer one", badOf("ab +" + times("x", 31) + " \""), "1 0 0 4");
        due("just not", badOf("ab +" + times("x", 30)), FINE);
        due("a string without end is one fault", badOf("\"" + times("x", 99)), "1 0 0 0");
        due("the last byte", badOf(times(" ", 399) + "\""), "1 0 0 399");

        sentence("2 a DIRECTIVE that is not as told (at the first TOKEN that can't come; the LINE's end: how many bytes it has");
        due("no such name", badOf("# foo"), "2 0 0 2");
        due("a number", badOf("#1"), "2 0 0 1");
        due("a string", badOf("#\"define\""), "2 0 0 1");
        due("a sign", badOf("#("), "2 0 0 1");
        due("the end", badOf("#undef"), "2 0 0 6");
        due("the end behind blanks", badOf("#undef   "), "2 0 0 9");
        due("the end of 400", badOf("#undef" + times(" ", 394)), "2 0 0 400");
        due("one behind", badOf("#undef a b c"), "2 0 0 9");

        sentence("of a DIRECTIVE the FAULT of the first TOKEN that has one, be it 2, 5, 7, 11");
        due("5 ahead of 2", badOf("#define a", "#define a( ##"), "5 0 1 8");
        due("5 ahead of 7", badOf("#define a", "#define a " + times("1 ", 21)), "5 0 1 8");
        due("2 ahead of 7", badOf("#define f(a a,b,c,d,e)"), "2 0 0 12");
        due("7 ahead of 2", badOf("#define f(a,b,c,d,e"), "7 0 0 18");
        due("7 of parameters ahead of 7 of the body", badOf("#define f(a,b,c,d,e) " + times("1 ", 21)), "7 0 0 18");
        due("11 ahead of 2", badOf("#include 9 x"), "11 0 0 9");
        due("2 behind an include that can be", twoFiles("#include 1 x", "y"), "2 0 0 11");
        due("it was not begun", begun("#include 1 x", "y"), 0);
        due("2 behind one that is spared", twoFiles("#define A\n#include 1 x", "#ifndef A\n#endif"), "2 0 1 11");

        sentence("'defined' can't be defined");
        due("without", badOf("#define defined"), "2 0 0 8");
        due("with parameters", badOf("#define defined(x) x"), "2 0 0 8");
        due("a longer one can", badOf("#define defined_ 1", "#define Defined 2", "#define define 3"), FINE);
        due("undef of it", badOf("#undef defined"), FINE);

        sentence("of a ## that may not be there, a # that is ahead of no PARAMETER: at it");
        due("##", badOf("#define a b ##   "), "2 0 0 12");
        due("#", badOf("#define f(x) x #   "), "2 0 0 15");
    }

    private static String twoFiles(String first, String second) {
        HideSets x = with(first);
        file(x, 1, second);
        x.run(0);
        return bad(x);
    }

    private static int begun(String first, String second) {
        HideSets x = with(first);
        file(x, 1, second);
        x.run(0);
        return x.now(3);
    }

    private static void faultsOfNames() {
        sentence("3 a bracket that is not closed in the row (at the NAME's ORIGIN)");
        due("at the end", badOf("#define f(x) x", "  f("), "3 0 1 2");
        due("an inner one", badOf("#define f(x) x", "f((1)"), "3 0 1 0");
        due("closed in the next line", badOf("#define f(x) x", "f(", ")"), "3 0 1 0");
        due("in an argument", badOf("#define f(x) x", "#define o f(", "f( o )"), "3 0 2 3");
        due("of a body: the name's that was replaced", badOf("#define f(x) x", "#define a f(1", "  a"), "3 0 2 2");
        due("of a body, closed behind it", allOf("#define f(x) <x>", "#define a f(1", "a)"), "<.1.>");

        sentence("4 not as many ARGUMENTS as PARAMETERS (likewise; of none: anything between the brackets; one of no TOKENS is none told, and one)");
        due("of none, none", allOf("#define f() 1", "f() f(  )"), "1 1");
        due("of none, one", badOf("#define f() 1", " f(1)"), "4 0 1 1");
        due("of none, a comma", badOf("#define f() 1", "f(,)"), "4 0 1 0");
        due("of none, a name that is nothing", badOf("#define e", "#define f() 1", "f(e)"), "4 0 2 0");
        due("of none, brackets", badOf("#define f() 1", "f(())"), "4 0 1 0");
        due("of one, none told", allOf("#define f(x) <x>", "f() f( )"), "<.> <.>");
        due("of one, one", allOf("#define f(x) <x>", "f(1)"), "<.1.>");
        due("of one, two", badOf("#define f(x) x", "f(1,2)"), "4 0 1 0");
        due("of one, two of no tokens", badOf("#define f(x) x", "f(,)"), "4 0 1 0");
        due("of two, none told", badOf("#define f(x,y) x", "f()"), "4 0 1 0");
        due("of two, one", badOf("#define f(x,y) x", "f((1,2))"), "4 0 1 0");
        due("of two, two", allOf("#define f(x,y) x", "<f(,)>"), "<.>");
        due("of four, three", badOf("#define f(a,b,c,d) a", "f(1,2,3)"), "4 0 1 0");
        due("of four, four", allOf("#define f(a,b,c,d) d", "f(1,2,3,4)"), "4");
        due("of four, five", badOf("#define f(a,b,c,d) a", "f(1,2,3,4,5)"), "4 0 1 0");
        due("of four, nine", badOf("#define f(a,b,c,d) a", "f(,,,,,,,,)"), "4 0 1 0");
        due("not begun", ran("#define f(x) x", "f(1,2)").now(6), 0);

        sentence("5 define of a MACRO (at the NAME)");
        due("again", badOf("#define a 1", "# define  a 1"), "5 0 1 10");
        due("undefined between", badOf("#define a 1", "#undef a", "#define a 1"), FINE);
        due("with parameters", badOf("#define a 1", "#define a(x)"), "5 0 1 8");

        sentence("6 what is pasted is no TOKEN (at the ORIGIN of the NAME that is replaced)");
        due("of a body", badOf("#define a + ## +", "", "  a"), "6 0 2 2");
        due("of the name replaced, not of the argument", badOf("#define f(x) x##+", " f(  a)"), "6 0 1 1");
        due("in an argument", badOf("#define f(x) x##+", "#define g(x) x", "g( f(a))"), "6 0 2 3");
        due("of a body in a body", badOf("#define f(x) x##+", "#define a b f(1)", " a"), "6 0 2 1");

        sentence("at a NAME that is to be replaced: 3, 4, 7 for EXPANSIONS, then those of its ARGUMENTS and STRINGS, of pastes, 7 for 30 TOKENS");
        due("3 ahead of 4", badOf("#define f(x) x", "f(1,2"), "3 0 1 0");
        due("3 ahead of 7", badOf("#define e", "#define f(x) x", times("e ", 100), " f(1"), "3 0 3 1");
        due("4 ahead of 7", badOf("#define e", "#define f(x) x", times("e ", 100), " f(1,2)"), "4 0 3 1");
        due("7 ahead of arguments", badOf("#define e", "#define f(x) x", times("e ", 100), " f(f(,))"), "7 0 3 1");
        due("arguments ahead of a string behind them", badOf("#define f(x) x #x", "f(f(,)" + times("a", 30) + ")"), "4 0 1 2");
        due("a string ahead of arguments behind it", badOf("#define f(x) #x x", " f(f(,)" + times("a", 30) + ")"), "6 0 1 1");
        due("arguments ahead of pastes", badOf("#define f(x,y) -##- y", "f(1,f(2))"), "4 0 1 4");
        due("strings ahead of pastes", ran("#define f(x) -##- #x", "f(a)").now(8), 1);
        due("pastes ahead of 30 tokens", badOf("#define f(x) x x - ## -", "  f(" + times("1 ", 16) + ")"), "6 0 1 2");
        due("arguments ahead of 30 tokens", badOf("#define f(x,y) x x y", "f(" + times("1 ", 16) + ",f(,,))"), "4 0 1 35");
        due("a paste that fails is ahead of a second", ran("#define f(x) x##x -##- x##x", "f(a)").now(7), 1);
    }

    private static void limits() {
        String c = "#define e\n";
        sentence("7 too many: 100 EXPANSIONS of a run (each replacing)");
        due("99", ran(c + times("e ", 99)).now(6), 99);
        due("100", badOf(c + times("e ", 100)), FINE);
        due("101", badOf(c + times("e ", 101)), "7 0 1 200");
        due("100 begun", ran(c + times("e ", 101)).now(6), 100);
        due("in two lines", badOf(c + times("e ", 60), times("e ", 41)), "7 0 2 80");
        due("in conditions, too", badOf(c + times("e ", 99), "#if 1 e", "#elif e", "#endif", " e"), "7 0 5 1");
        due("in arguments, too", badOf("#define f(x) x x", c + times("e ", 98), "f( e)"), "7 0 3 3");
        HideSets x = with("#include 1\n" + times("e ", 50));
        file(x, 1, c + times("e ", 50));
        x.run(0);
        due("in files that are included", bad(x) + " " + x.now(6), FINE + " 100");
        edit(x, 0, 1, times("e ", 51));
        x.run(0);
        due("one more there", bad(x), "7 0 1 100");
        due("anew in the next run", x.run(1), 0);
        due("in one another", badOf("#define f(x) x", times("f(", 100) + times(")", 100)), FINE);
        due("101 in one another", badOf("#define f(x) x", times("f(", 101) + times(")", 101)), "7 0 1 200");
        due("hidden ones are none", ran("#define a a a a", "a a a").now(6), 3);

        sentence("30 TOKENS by which a NAME is replaced (at its ORIGIN)");
        String d = "#define f(x) x x x";
        due("29", outOf("#define f(x) x x x 1 2", "f(" + times("1 ", 9) + ")"), 29);
        due("30", outOf(d, "f(" + times("1 ", 10) + ")"), 30);
        due("33", badOf(d, "   f(" + times("1 ", 11) + ")"), "7 0 1 3");
        due("31", badOf("#define f(x) x x x 1", " f(" + times("1 ", 10) + ")"), "7 0 1 1");
        due("29 by pastes", outOf("#define f(x) x##x x", "f(" + times("1 ", 10) + ")"), 29);
        due("30 just by pastes", outOf("#define f(x,y) x x##y", "f(" + times("1 ", 10) + "," + times("2 ", 11) + ")"), 30);
        due("31 by pastes", badOf("#define f(x,y) x x##y", "f(" + times("1 ", 10) + "," + times("2 ", 12) + ")"), "7 0 1 0");
        due("400 by one", badOf("#define f(x) x", "f(" + times("+", 350) + ")"), "7 0 1 0");
        due("more in an argument that is not used", outOf("#define f(x) 1", "f(" + times("+", 350) + ")"), 1);
        due("of an argument: 30 of a name in it", outOf("#define f(x) x", "f(f(" + times("1 ", 30) + "))"), 30);
        due("of an argument: 31", badOf("#define f(x) x", "f( f(" + times("1 ", 31) + "))"), "7 0 1 3");
        due("two names with 30 each", outOf("#define f(x) x", "f(" + times("1 ", 30) + ") f(" + times("1 ", 30) + ")"), 60);

        sentence("300 TOKENS that come out of a run (at the next one's)");
        due("299", outOf(times("+", 299)), 299);
        due("300", outOf(times("+", 300)), 300);
        due("301", badOf(times("+", 301)), "7 0 0 300");
        due("in lines", outOf(times("+", 150), "", times("+", 150)), 300);
        due("in lines, one more", badOf(times("+", 150), times("-", 150), " ;"), "7 0 2 1");
        due("300 and an empty line", badOf(times("+", 300), "", "#define a"), FINE);
        due("by macros", badOf("#define a " + times("+ ", 20), times("a ", 15), "#define b", "b  z"), "7 0 3 3");
        due("of what is replaced: its origin", badOf("#define a " + times("+ ", 20), times("a ", 16)), "7 0 1 30");
        x = ran("#if 0", times("+", 350), "#endif", "x");
        due("skipped ones are none", all(x), "x");
        x = ran(times("+", 299), "ab cd ef");
        due("the first 300 come out", word(x, 299) + token(x, 300, 0), "ab" + THREW);
        due("at the 301st", bad(x), "7 0 1 3");
        x = with("x", "#include 1", "y");
        file(x, 1, times("+", 299));
        x.run(0);
        due("of all files", bad(x), "7 0 2 0");
    }

    private static int outOf(String... lines) {
        return with(lines).run(0);
    }

    private static void faultsOfGroups() {
        sentence("8 an E that is not as told, a ninth within (at the ORIGIN of the first TOKEN that can't come");
        due("nothing", badOf("#if"), "8 0 0 3");
        due("nothing but blanks", badOf("#if  ", "#endif"), "8 0 0 5");
        due("nothing left", badOf("#define e", "#if e  "), "8 0 1 7");
        due("two", badOf("#if 1 1"), "8 0 0 6");
        due("of a body", badOf("#define e 1 1", "#if 0 + e"), "8 0 1 8");
        due("of an argument", badOf("#define f(x) x", "#if f(1 1)"), "8 0 1 8");
        due("a ninth", badOf("#if " + times("(", 9) + "1" + times(")", 9)), "8 0 0 12");
        due("not a ninth", badOf("#if " + times("(", 8) + "1" + times(")", 8), "#endif"), FINE);

        sentence("of ? : a part's first one; the end: how many bytes the LINE has");
        due("a ninth part", badOf("#if " + times("0?1:", 8) + "0? 1:1"), "8 0 0 39");
        due("a ninth part at the end", badOf("#if " + times("0?1:", 8) + "0?  "), "8 0 0 40");
        due("the end", badOf("#if 1+  "), "8 0 0 8");
        due("the end of 400", badOf("#if 1+" + times(" ", 394)), "8 0 0 400");

        sentence("10 elif, else, endif without a group of this FILE");
        due("elif", badOf("a", " #elif 1"), "10 0 1 1");
        due("else", badOf("#else"), "10 0 0 0");
        due("endif", badOf("#if 1", "#endif", "#endif"), "10 0 2 0");
        due("of another file", twoFiles("#if 1\n#include 1\n#endif", " #endif"), "10 1 0 1");
        due("else of another file", twoFiles("#if 1\n#include 1\n#endif", "#else"), "10 1 0 0");
        due("elif of another file", twoFiles("#if 1\n#include 1\n#endif", "#elif 0"), "10 1 0 0");

        sentence("elif or else behind else (at the #; ahead of all else in that LINE)");
        due("else", badOf("#if 1", "#else", " # else x", "#endif"), "10 0 2 1");
        due("elif", badOf("#if 0", "#else", "#elif \"", "#endif"), "10 0 2 0");
        due("of an inner group none", badOf("#if 1", "#if 1", "#else", "#endif", "#else", "#endif"), FINE);
        due("behind an inner group", badOf("#if 1", "#else", "#if 1", "#else", "#endif", "#else", "#endif"), "10 0 5 0");
        due("within skipped lines", badOf("#if 0", "#if 1", "#else", "#elif", "#endif", "#endif"), "10 0 3 0");
        due("behind a group within skipped lines", badOf("#if 0", "#if 1", "#else", "#endif", "#if 1", "#else", "#endif", "#endif"), FINE);

        sentence("a group that is not ended (at the # of its first LINE, when the FILE ends; the innermost)");
        due("if", badOf("x", "  # if 1", "y"), "10 0 1 2");
        due("the innermost", badOf("#if 1", " #ifdef a", "#endif", " #ifndef b"), "10 0 3 1");
        due("the innermost skipped", badOf("#if 0", "#if 1", "  #if 1"), "10 0 2 2");
        due("ended inner ones are not", badOf(" #if 0", "#if 1", "#endif"), "10 0 0 1");
        due("behind its else", badOf("#if 1", "#else"), "10 0 0 0");
        due("of a file that is included", twoFiles("#if 1\n#include 1\n#endif", "x\n #if 0"), "10 1 1 1");
        due("when the file ends: others first", badOf("#if 1", "x \""), "1 0 1 2");
        due("what came out", allOf("#if 1", "x", "#endif"), "x");
        HideSets x = ran("#if 1", "x");
        due("lines ahead came out", all(x) + " " + x.now(1), "x 1");
    }

    private static void nothingIsLeftOver() {
        sentence("FAULTS, the first that is met: a FAULT in the midst of a replacing leaves nothing for the next call");
        String[] lines = {"f(f(,))", "f(f(1)f(", "f(c(-,1))", "f(f(s(" + times("a", 30) + ")))", "c(f(,),f(,))", "f(1)c(-,f(1))"};
        for (String line : lines) {
            HideSets x = with("#define f(x) x f", "#define c(x,y) x##y", "#define s(x) #x", line);
            due("run " + line, x.run(0), -2);
            due("expand behind it", expand(x, "1 2") == 2 ? all(x) : "", "1 2");
            due("run again", x.run(0), -2);
            due("a paste behind it", expand(x, "c(a,b)s(q)f(1)") == 4 ? all(x) : bad(x), "ab.\"q\".1 f");
            due("expand " + line, expand(x, line), -2);
            due("value behind it", worth(x, "c(1,2)"), "12");
            x.drop(0, 3);
            due("run without it", x.run(0), 0);
            due("no fault", bad(x), FINE);
        }
    }

    private static void includes() {
        sentence("11 include of no FILE told");
        due("not told", badOf("#include 1"), "11 0 0 9");
        due("no such", badOf(" # include  4"), "11 0 0 12");
        due("told with no lines", twoFiles("#include 1\nx", ""), FINE);

        sentence("or, if it is not spared, a seventh within one another (the FILE that is RUN is not included)");
        HideSets x = with("#include 0");
        x.run(0);
        due("a seventh", bad(x), "11 0 0 9");
        due("six were begun", x.now(3) * 10 + x.now(5), 66);
        x = nested(5, "x");
        due("five", bad(x) + " " + x.now(5), FINE + " 5");
        x = nested(6, "x");
        due("six", bad(x) + " " + x.now(5), FINE + " 6");
        x = nested(7, "x");
        due("seven", bad(x) + " " + x.now(5), "11 1 17 9 6");
        x = with("#include 1");
        file(x, 1, "#ifndef G", "#include 1", "#endif");
        x.run(0);
        due("in a guarded one that is not spared", bad(x) + " " + x.now(3), "11 1 1 9 6");
        x = nested(6, "#include 2");
        due("a seventh that is spared", bad(x) + " " + x.now(3) + x.now(4) + x.now(5), FINE + " 616");

        sentence("or a 13th that would be begun (at the NUMBER)");
        x = with(times("#include 1\n", 11));
        file(x, 1, "");
        x.run(0);
        due("11", bad(x) + " " + x.now(3), FINE + " 11");
        file(x, 0, times("#include 1\n", 12));
        x.run(0);
        due("12", bad(x) + " " + x.now(3), FINE + " 12");
        file(x, 0, times("#include 1\n", 12) + "  #include  1");
        x.run(0);
        due("13", bad(x) + " " + x.now(3), "11 0 12 12 12");
        file(x, 1, "#ifndef G", "#endif");
        file(x, 0, times("#include 1\n", 12) + "#define G\n#include 1\n#include 1\n#undef G\n#include 1");
        x.run(0);
        due("spared ones are not begun", bad(x) + " " + x.now(3) + " " + x.now(4), "11 0 16 9 12 2");
        file(x, 0, times("#include 2\n", 6));
        file(x, 2, "#include 3");
        file(x, 3, "x");
        due("12 in two files", x.run(0), 6);
        edit(x, 0, 6, "#include 3");
        x.run(0);
        due("13 in two files", bad(x), "11 0 6 9");
        due("those ahead came out", all(x), "x.x.x.x.x.x");
    }

    /** FILE 1 includes itself until so many are within one another; the innermost has these LINES. */
    private static HideSets nested(int deep, String innermost) {
        HideSets x = with("#include 1");
        StringBuilder b = new StringBuilder();
        for (int level = 1; level < deep; level++) {
            char name = (char) ('a' + level);
            b.append(level == 1 ? "#ifndef " : "#elif !defined ").append(name);
            b.append("\n#define ").append(name).append("\n#include 1\n");
        }
        file(x, 1, b + "#else\n" + innermost + "\n#endif");
        file(x, 2, "#ifndef b", "#endif");
        x.run(0);
        return x;
    }

    public static void main(String[] args) {
        groups();
        guards();
        faultsOfTokens();
        faultsOfNames();
        limits();
        faultsOfGroups();
        nothingIsLeftOver();
        includes();
        close("edges of a run");
    }
}
