/** The boundary cases of "==== 2.": EXPANDING, STRINGS, pastes, BLANKS, ORIGINS and E. */
public final class ExpandingEdgesTest extends Probe {

    private static void names() {
        sentence("each TOKEN has a HIDE set of MACROS (none, as it is told)");
        due("none", hides(ran("#define a", "x + \"s\" 1")), "0 0 0 0");
        due("none on the tape", tapeHides("#define a b", "x b"), "0 0");

        sentence("A NAME that is a MACRO not in its own HIDE set");
        due("a name in a string is none", allOf("#define a 1", "\"a\" a"), "\"a\" 1");
        due("a longer or shorter one is none", allOf("#define aa 1", "a aaa aa"), "a aaa 1");
        due("a number is none", allOf("#define x 1", "0x 0 x"), "0x 0 1");
        due("itself", allOf("#define a a", "a"), "a");
        due("in a ring of three", allOf("#define a b", "#define b c", "#define c a", "a b c"), "a b c");
        due("what they hide", hides(ran("#define a b", "#define b c", "#define c a", "a b c")), "7 7 7");
        due("once undefined it is none", allOf("#define a 1", "#undef a", "a"), "a");
        due("defined behind it is none yet", allOf("a", "#define a 1"), "a");

        sentence("without PARAMETERS: it is replaced, HIDE h is its own one and it");
        due("h", hides(ran("#define a b c", "#define b 1", "a")), "3 1");
        due("brackets behind it stay", allOf("#define a 1", "a(2)"), "1.(.2.)");

        sentence("Else, if ( follows");
        due("at once", allOf("#define f(x) <x>", "f(1)"), "<.1.>");
        due("behind blanks", allOf("#define f(x) <x>", "f   (1)"), "<.1.>");
        due("from a body", allOf("#define f(x) <x>", "#define o (", "f o 1)"), "f ( 1.)");
        due("behind what is replaced", allOf("#define f(x) <x>", "#define g f", "g(1)"), "<.1.>");
        due("behind what is replaced by nothing", allOf("#define f(x) <x>", "#define e", "f e (1)"), "f (.1.)");

        sentence("If no ( follows, it stays");
        due("at the end", allOf("#define f(x) 1", "f"), "f");
        due("another token", allOf("#define f(x) 1", "f[ f) f\"(\" f"), "f.[ f.) f.\"(\" f");
        due("in the next line", allOf("#define f(x) 1", "f", "(2)"), "f.(.2.)");
        due("at the end of an argument", allOf("#define f(x) 1", "#define g(x) x", "g(f) (2)"), "1");
        due("at the end of an argument of its own", allOf("#define f(x) x", "f(f)(2)"), "f.(.2.)");
        due("no fault, no expansion", ran("#define f(x) 1", "f").now(6), 0);
    }

    private static String tapeHides(String define, String tape) {
        HideSets x = ran(define);
        expand(x, tape);
        return hides(x);
    }

    private static void arguments() {
        sentence("as far as the bracket that closes it, by commas (those in no inner brackets) into ARGUMENTS");
        due("inner brackets", allOf("#define f(x,y) y:x", "f((1,2),(3,(4,5)))"), "(.3.,.(.4.,.5.).).:.(.1.,.2.)");
        due("no other brackets", allOf("#define f(x,y) y:x", "f([1,2])"), "2.].:.[.1");
        due("strings with brackets", allOf("#define f(x) <x>", "f(\")\")"), "<.\")\".>");
        due("all empty", allOf("#define f(a,b,c,d) <a b c d>", "f(,,,)"), "<.>");
        due("some empty", allOf("#define f(a,b,c,d) <a b c d>", "f(1,,3,)"), "<.1 3.>");
        due("a call within", allOf("#define f(x,y) <x y>", "f(f(1,2),f(3,4))"), "<.<.1 2.> <.3 4.>.>");
        due("behind the bracket it goes on", allOf("#define f(x) x", "f(1)f(2))"), "1.2.)");
        due("not closed", badOf("#define f(x) x", "f((1)"), "3 0 1 0");
        due("as many as parameters", allOf("#define f(a,b,c,d) d c b a", "f(1,2,3,4)"), "4 3 2 1");

        sentence("h is what its own HIDE set and that of the closing bracket have both, and it");
        due("both none", hides(ran("#define f(x) x y", "f(1)")), "1 1");
        due("the bracket none", hides(ran("#define f(x) x", "#define a f", "a(1)")), "1");
        due("both", hides(ran("#define f(x) x", "#define a f(1)", "a")), "3");
        due("the bracket more", hides(ran("#define f(x) x", "#define c )", "#define g(x) f(1 x", "g(c)")), "5");
        due("the document's own", hides(ran("#define f(a) a*g", "#define g(a) f(a)", "f(2)(9)")), "1 1 3 3 3");

        sentence("Else a PARAMETER: the ARGUMENT, EXPANDED by itself (anew each time)");
        due("anew", ran("#define a 1", "#define f(x) x x x", "f(a)").macro(0, 5), 3);
        due("not if it is not used", ran("#define a 1", "#define f(x) y", "f(a)").macro(0, 5), 0);
        due("by itself", allOf("#define f(x) x)", "#define g(x) <x>", "f(g(1)"), "3 0 2 0");
        due("what it hides stays", hides(ran("#define a a", "#define f(x) x x", "f(a) a")), "3 3 1");
        due("it is not replaced again", allOf("#define a a b", "#define f(x) x", "f(a)"), "a b");
        due("nested in itself", allOf("#define f(x) x+1", "f(f(f(0)))"), "0.+.1.+.1.+.1");
        due("a name of its own in it", allOf("#define f(x) x f(2)", "f(f(1))"), "1 f.(.2.) f.(.2.)");

        sentence("What it is replaced by takes its place, and EXPANDING goes on there");
        due("with what follows", allOf("#define f(x) <x>", "#define g f(", "#define h(x) x", "h(1) f(2)"), "1 <.2.>");
        due("a bracket from behind", allOf("#define a f", "#define f(x) <x>", "a a (3)"), "f <.3.>");
        due("by nothing", allOf("#define a", "a", "<a a>"), "<.>");
        due("a row of them", allOf("#define f(x) x f", "f(1)(2)(3)"), "1 f.(.2.).(.3.)");
    }

    private static void strings() {
        sentence("# and a PARAMETER: a STRING: the TOKENS of the ARGUMENT, a blank ahead of each but the first that has a BLANK");
        String s = "#define s(x) #x";
        due("no tokens", allOf(s, "s()"), "\"\"");
        due("blanks alone", allOf(s, "s(   )"), "\"\"");
        due("one", allOf(s, "s(a)"), "\"a\"");
        due("the first without its blank", allOf(s, "s(  a  )"), "\"a\"");
        due("one blank for many", allOf(s, "s(a   b)"), "\"a b\"");
        due("none without", allOf(s, "s(a+b- c)"), "\"a+b- c\"");
        due("commas of inner brackets", allOf(s, "s((a, b))"), "\"(a, b)\"");
        due("not expanded", allOf(s, "#define a 1", "s(a)"), "\"a\"");
        due("twice", allOf("#define s(x) #x #x", "s(a b)"), "\"a b\" \"a b\"");

        sentence("\" within told as ' (39)");
        due("each", allOf(s, "s(\"\" \"a'b\")"), "\"'' 'a'b'\"");
        due("its byte", ran(s, "s(\"\")").tokenAt(0, 1), 39);
        due("the outer ones", ran(s, "s(\"\")").tokenAt(0, 0) + 1000 * ran(s, "s(\"\")").tokenAt(0, 3), 34034);

        sentence("a STRING is longer than 30 bytes");
        due("29", allOf(s, "s(" + times("a", 27) + ")").length(), 29);
        due("30", allOf(s, "s(" + times("a", 28) + ")").length(), 30);
        due("31", badOf(s, "x s(" + times("a", 29) + ")"), "6 0 1 2");
        due("30 with a blank", allOf(s, "s(" + times("a", 13) + "  " + times("b", 14) + ")").length(), 30);
        due("31 with a blank", badOf(s, "s(" + times("a", 14) + " " + times("b", 14) + ")"), "6 0 1 0");
        due("30 with a blank ahead of the last", allOf(s, "s(" + times("a", 26) + " b)").length(), 30);
        due("31 with a blank ahead of the last", badOf(s, "s(" + times("a", 27) + " b)"), "6 0 1 0");
        due("30 bytes told", badOf(s, "s(" + times("a", 30) + ")"), "6 0 1 0");
        due("of many", badOf(s, "s(" + times("+ ", 100) + ")"), "6 0 1 0");
        due("just 30 of many", allOf(s, "s(" + times("+-", 14) + ")").length(), 30);
        due("not counted", ran(s, "s(" + times("a", 29) + ")").now(8), 0);
    }

    private static void pastes() {
        String c = "#define c(x,y) x ## y";
        sentence("A PARAMETER beside a ##: the ARGUMENT as it is");
        due("left", allOf("#define a 1", "#define f(x) x ## 2", "f(a)"), "a2");
        due("right", allOf("#define a 1", "#define f(x) b ## x", "f(a)"), "ba");
        due("both", allOf("#define a 1", "#define b 2", c, "c(a,b)"), "ab");
        due("not one beside them", allOf("#define a 1", "#define f(x) x x ## x x", "f(a)"), "1 aa 1");
        due("the others of a row are replaced then", allOf("#define a 1", c, "c(a a,a a)"), "1 aa 1");

        sentence("Then ## by ##, from left to right: the last TOKEN ahead and the first one behind are one");
        due("three", allOf("#define f(x,y,z) x##y##z", "f(a,b,c)"), "abc");
        due("from the left", allOf("#define f(x,y,z) x##y##z", "f(1,a,2)"), "1a2");
        due("from the left it must be one", badOf("#define f(x,y,z) x##y##z", "f(-,=,=)"), "6 0 1 0");
        due("the last and the first", allOf(c, "c(1 2,3 4)"), "1 23 4");
        due("tokens of the body", allOf("#define a b ## 1 c", "a"), "b1 c");
        due("signs", allOf(c, "c(=,=) c(!,=) c(<,=) c(>,=) c(&,&) c(|,|) c(<,<) c(>,>) c(#,#)"), "== != <= >= && || << >> ##");
        due("two pastes apart", allOf("#define f(x,y) x##y y##x", "f(a,b)"), "ab ba");

        sentence("an ARGUMENT without TOKENS is nothing: the other one stays");
        due("ahead", allOf(c, "c(,b)"), "b");
        due("behind", allOf(c, "c(a,)"), "a");
        due("both", allOf(c, "<c(,)>"), "<.>");
        due("between two", allOf("#define f(x,y,z) x##y##z", "f(a,,b)"), "ab");
        due("two ahead", allOf("#define f(x,y,z) x##y##z", "f(,,b)"), "b");
        due("two behind", allOf("#define f(x,y,z) x##y##z", "f(a,,)"), "a");
        due("all three", allOf("#define f(x,y,z) <x##y##z>", "f(,,)"), "<.>");
        due("what is ahead of nothing is not pasted", allOf("#define f(x) 1 x##2", "f()"), "1.2");
        due("what is behind nothing is not pasted", allOf("#define f(x) 1##x 2", "f()"), "1 2");
        due("nothing ahead, a row behind", allOf(c, "c(,1 2)"), "1 2");
        due("not counted as pasted of two", ran("#define f(x,y,z) x##y##z", "f(a,,) f(,b,) f(,,) f(a,,b)").now(7), 1);
        due("one that is replaced by nothing is not nothing", allOf("#define e", c, "c(e,b)"), "eb");

        sentence("What comes must be one TOKEN");
        due("a name and a number", allOf(c, "c(a,1) c(1,a) c(_,_) c(1,2)"), "a1 1a __ 12");
        due("a name and a sign", badOf(c, "c(a,+)"), "6 0 1 0");
        due("a sign and a name", badOf(c, "c(+,a)"), "6 0 1 0");
        due("signs that are none", badOf(c, "c(-,-)"), "6 0 1 0");
        due("of three bytes", badOf(c, "c(<<,=)"), "6 0 1 0");
        due("strings", badOf(c, "c(\"a\",\"b\")"), "6 0 1 0");
        due("a name and a string", badOf(c, "c(L,\"b\")"), "6 0 1 0");
        due("a number and a point", badOf(c, "c(1,.)"), "6 0 1 0");
        due("two bytes that look like one string", badOf(c, "c(\"\",\"\")"), "6 0 1 0");
        due("it is lexed anew", token(ran(c, "c(a,1)"), 0, 0) * 10 + token(ran(c, "c(1,a)"), 0, 0), 1);
        due("a name that is a macro", allOf("#define ab 7", c, "c(a,b)"), "7");
        due("no ## any more", allOf(c, "#define f(x) a x b", "f(c(#,#))"), "a ## b");
        due("no # any more", allOf("#define f(x) <x>", "#define h #", "f(h) x"), "<.#.> x");

        sentence("what is pasted is longer than 30 bytes");
        due("29", allOf(c, "c(" + times("a", 14) + "," + times("b", 15) + ")").length(), 29);
        due("30", allOf(c, "c(" + times("a", 15) + "," + times("b", 15) + ")").length(), 30);
        due("31", badOf(c, "  c(" + times("a", 15) + "," + times("b", 16) + ")"), "6 0 1 2");
        due("60", badOf(c, "c(" + times("a", 30) + "," + times("b", 30) + ")"), "6 0 1 0");
        due("30 and nothing", allOf(c, "c(" + times("a", 30) + ",)").length(), 30);
        due("nothing and 30", allOf(c, "c(," + times("a", 30) + ")").length(), 30);
        due("30 and 1", badOf(c, "c(" + times("a", 30) + ",b)"), "6 0 1 0");
        due("30 of three", allOf("#define f(x) x##x##x", "f(" + times("a", 10) + ")").length(), 30);
        due("33 of three", badOf("#define f(x) x##x##x", "f(" + times("a", 11) + ")"), "6 0 1 0");

        sentence("its HIDE set is what both have");
        due("none of a body", hides(ran("#define b 1", "#define a x##y", "a")), "2");
        due("both have it", hides(ran("#define a c(p q,p q)", "#define c(x,y) x##y", "a")), "3 3 3");
        due("one has it", hides(ran("#define a p", "#define f(x) x g(x)", "#define g(x) x##q", "f(a)")), "3 6");
        due("a name pasted to itself may be replaced", allOf("#define ab 1 ab", "#define c(x,y) x##y", "c(a,b)"), "1 ab");

        sentence("To the HIDE set of each TOKEN that comes h is added");
        due("strings, arguments, bodies", hides(ran("#define z", "#define f(x) x #x y x##1", "f(p)")), "2 2 2 2");
    }

    private static void blanks() {
        sentence("BLANK of what comes: the first TOKEN in place of a NAME");
        due("without", allOf("#define a  b c", "+a"), "+.b c");
        due("with", allOf("#define a b c", "+ a"), "+ b c");
        due("of an argument", allOf("#define f(x) x", "+f( 1) + f(1)"), "+.1 + 1");
        due("of a string", allOf("#define f(x) #x", "+f(1) f(1)"), "+.\"1\" \"1\"");
        due("of what is pasted", allOf("#define f(x) x##x", "+f( 1) f(1)"), "+.11 11");
        due("of the first in a line", allOf("#define a b", "a", " a"), "b b");
        due("twice replaced", allOf("#define a b", "#define b  c", "+a + a"), "+.c + c");
        due("a name that is replaced by nothing takes its own away", allOf("#define e", "a e+ e +"), "a.+ +");
        due("the second stays as it was", allOf("#define e", "#define a e x", "+a"), "+ x");

        sentence("of a PARAMETER: as of that");
        due("without", allOf("#define f(x) +x", "f( 1)"), "+.1");
        due("with", allOf("#define f(x) + x", "f(1)"), "+ 1");
        due("the others as they are", allOf("#define f(x) + x", "f(1 2+3)"), "+ 1 2.+.3");
        due("one that begins with nothing", allOf("#define e", "#define f(x) +x", "f(e 1)"), "+.1");
        due("of nothing", allOf("#define f(x) + x -", "f()"), "+ -");

        sentence("(of #: a STRING)");
        due("of the #", allOf("#define f(x) +# x + #x", "f(1)"), "+.\"1\" + \"1\"");

        sentence("what is pasted: as of that ahead");
        due("without", allOf("#define f(x) +x ## 2", "f( 1)"), "+.12");
        due("with", allOf("#define f(x) + x## 2", "f(1)"), "+ 12");
        due("of the body", allOf("#define a +b ## c + b ## c", "a"), "+.bc + bc");
        due("of the last of a row", allOf("#define f(x) +x##3", "f(1 2)"), "+.1 23");
        due("behind it the row goes on", allOf("#define f(x) +1## x", "f( 2 3+)"), "+.12 3.+");
        due("behind it the blanks are those of the row", allOf("#define f(x) +1##x", "f(2 3)"), "+.12 3");
        due("behind it no blank of the parameter", allOf("#define f(x) +1## x", "f(2+3)"), "+.12.+.3");
    }

    private static void origins() {
        sentence("ORIGIN: FILE, LINE, place in it (byte from 0): TOKENS of a LINE: theirs");
        due("places", places(ran("a  b+\"c\"")), "0 3 4 5");
        due("the first of a line of 400", places(ran("a" + times(" ", 398) + "b")), "0 399");
        due("lines", each(ran("a", "", "b"), 3), "0 2");
        HideSets x = with("#include 3", "x");
        file(x, 3, "", "y");
        x.run(0);
        due("files", each(x, 2) + " " + each(x, 3), "3 0 1 1");

        sentence("of a BODY: that of the NAME that is replaced");
        due("each", places(ran("#define a b c d", "   a")), "3 3 3");
        due("replaced twice", places(ran("#define a b c", "#define b d e", "  a")), "2 2 2");
        due("its line", each(ran("#define a b", "", "a"), 3), "2");
        x = with("#include 1", "", " a");
        file(x, 1, "#define a b");
        x.run(0);
        due("its file", each(x, 2) + each(x, 3) + each(x, 4), "021");

        sentence("STRINGS likewise; of ARGUMENTS: theirs; what is pasted: as of that ahead");
        due("string", places(ran("#define f(x) #x", " f( a)")), "1");
        due("argument", places(ran("#define f(x) x x", " f( a b)")), "4 6 4 6");
        due("an argument that is replaced", places(ran("#define a 1 2", "#define f(x) x", " f( a)")), "4 4");
        due("pasted of an argument and the body", places(ran("#define f(x) x##1 1##x", " f( 2)")), "4 1");
        due("pasted of two", places(ran("#define f(x,y) y##x", "f(a,b)")), "4");
        due("nothing ahead", places(ran("#define f(x,y) x##y", "f(,b)")), "3");
    }

    private static void definedNames() {
        sentence("E: 'defined' NAME, 'defined' ( NAME ) are 1, if it is a MACRO, else 0");
        HideSets x = ran("#define a", "#define f(x) x", "#define b", "#undef b");
        due("a macro", worth(x, "defined a"), "1");
        due("brackets", worth(x, "defined ( a )") + worth(x, "defined(a)"), "11");
        due("one with parameters", worth(x, "defined f"), "1");
        due("none", worth(x, "defined z") + worth(x, "defined(z)"), "00");
        due("one that was", worth(x, "defined b"), "0");
        due("defined itself", worth(x, "defined defined") + worth(x, "defined(defined)"), "00");
        due("many", worth(x, "defined a+defined f*2-defined(z)"), "3");
        due("no name", worth(x, "defined 5"), "8@8");
        due("nothing", worth(x, "defined"), "8@7");
        due("an open bracket", worth(x, "defined("), "8@8");
        due("no name in brackets", worth(x, "defined(5)"), "8@8");
        due("nothing in brackets", worth(x, "defined()"), "8@8");
        due("a bracket that is not closed", worth(x, "defined(a"), "8@9");
        due("two in brackets", worth(x, "defined(a a)"), "8@10");

        sentence("then EXPANDED; NAMES that are left are 0");
        x = ran("#define a 3", "#define f(x) x*2", "#define d defined", "#define e", "#define g g+1");
        due("expanded", worth(x, "a+f(2)"), "7");
        due("left", worth(x, "z+_1+f+1"), "1");
        due("hidden", worth(x, "g"), "1");
        due("what comes as defined is a name", worth(x, "d"), "0");
        due("and no more", worth(x, "d a"), "8@2");
        due("nothing", worth(x, "e"), "8@1");
        due("nothing beside one", worth(x, "e 5 e"), "5");
    }

    private static void numbers() {
        sentence("NUMBERS: digits, up to 9223372036854775807");
        due("0", worth("0"), "0");
        due("one below", worth("9223372036854775806"), "9223372036854775806");
        due("at it", worth("9223372036854775807"), "9223372036854775807");
        due("one beyond", worth("9223372036854775808"), "8@0");
        due("10 beyond", worth("9223372036854775817"), "8@0");
        due("far beyond", worth(times("9", 30)), "8@0");
        due("twenty digits", worth("10000000000000000000"), "8@0");
        due("wrapped to a small one", worth("18446744073709551617"), "8@0");
        due("zeros ahead", worth("000000000009223372036854775807"), "9223372036854775807");
        due("zeros ahead of one beyond", worth("00000000009223372036854775808"), "8@0");
        due("0 ahead is no base", worth("010+08"), "18");
        due("a letter", worth("1+1a"), "8@2");
        due("_", worth("1_0"), "8@0");
        due("u and l", worth("1u") + " " + worth("1L"), "8@0 8@0");
        due("the least one can't be told", worth("-9223372036854775808"), "8@1");
        due("but made", worth("-9223372036854775807-1"), "-9223372036854775808");

        sentence("or 0x and 1 to 16 digits of base 16 (a to f, A to F) by their bits");
        due("none", worth("0x"), "8@0");
        due("1", worth("0x0") + worth("0x9") + worth("0xa") + worth("0xF"), "091015");
        due("all", worth("0x1234567890abcdef"), "1311768467294899695");
        due("great ones", worth("0xABCDEF"), "11259375");
        due("15", worth("0xfffffffffffffff"), "1152921504606846975");
        due("16", worth("0xffffffffffffffff"), "-1");
        due("16, the least", worth("0x8000000000000000"), "-9223372036854775808");
        due("16, the greatest", worth("0x7fffffffffffffff"), "9223372036854775807");
        due("17", worth("0x00000000000000001"), "8@0");
        due("28", worth("0x" + times("0", 28)), "8@0");
        due("g", worth("0xg"), "8@0");
        due("G", worth("0x1G"), "8@0");
        due("_", worth("0x_1"), "8@0");
        due("0X", worth("0X1"), "8@0");
        due("1x", worth("1x1"), "8@0");
        due("00x", worth("00x1"), "8@0");

        sentence("Numbers of 64 bits that wrap");
        due("up", worth("9223372036854775807+1"), "-9223372036854775808");
        due("down", worth("0x8000000000000000-1"), "9223372036854775807");
        due("times", worth("9223372036854775807*2"), "-2");
        due("times, both great", worth("0x100000000*0x100000000"), "0");
        due("the least one's other side", worth("-0x8000000000000000"), "-9223372036854775808");
        due("the least by -1", worth("0x8000000000000000/-1"), "-9223372036854775808");
        due("its rest", worth("0x8000000000000000%-1"), "0");
        due("shifted out", worth("3<<63"), "-9223372036854775808");
    }

    private static void strengths() {
        sentence("By strength: ? : (from the right), ||, &&, |, ^, &, == !=, < <= > >=, << >>, + -, * / %");
        due("?: and ||", worth("1||1?0:2"), "0");
        due("|| and &&", worth("1||0&&0") + worth("0&&0||1"), "11");
        due("&& and |", worth("0&&0|1") + worth("1|1&&0"), "00");
        due("| and ^", worth("1|1^1") + worth("1^1|1"), "11");
        due("^ and &", worth("1^1&0") + worth("0&1^1"), "11");
        due("& and ==", worth("2&2==2") + worth("2==2&2"), "00");
        due("== and <", worth("2==1<3") + worth("5==3<=9") + worth("5!=3>=9") + worth("5!=9>3"), "0011");
        due("< and <<", worth("1<1<<1") + worth("1<<1<1"), "10");
        due("<< and +", worth("1<<1+1") + worth("1+1<<1"), "44");
        due("+ and *", worth("2+3*4") + worth("3*4+2"), "1414");
        due("from the left", worth("10-3-2") + worth("100/10/5") + worth("7%4%2") + worth("1<<2<<1"), "5218");
        due("from the left, compared", worth("3>2>1") + worth("2==2==1") + worth("5!=5!=1"), "011");
        due("from the right", worth("1?2:1?3:4") + worth("0?2:0?3:4"), "24");
        due("in the second part", worth("1?0?3:4:5") + worth("1?1,2:3"), "48@3");
        due("no = alone", worth("1=1"), "8@1");

        sentence("<< >> (by the lowest 6 bits; to the right with the sign)");
        due("0", worth("5<<0") + worth("5>>0"), "55");
        due("63", worth("1<<63"), "-9223372036854775808");
        due("64", worth("5<<64") + worth("5>>64"), "55");
        due("65", worth("5<<65") + worth("5>>65"), "102");
        due("-1", worth("1<<-1"), "-9223372036854775808");
        due("-64", worth("5<<-64"), "5");
        due("great", worth("5<<0x100000000"), "5");
        due("with the sign", worth("-1>>63") + worth("-5>>1") + worth("0x8000000000000000>>63"), "-1-3-1");

        sentence("* / % (towards 0)");
        due("/", worth("7/2") + worth("-7/2") + worth("7/-2") + worth("-7/-2"), "3-3-33");
        due("%", worth("7%2") + worth("-7%2") + worth("7%-2") + worth("-7%-2"), "1-11-1");
        due("below one", worth("-1/2") + worth("1/-2"), "00");

        sentence("ahead of one: ! ~ - +; ( )");
        due("!", worth("!0") + worth("!1") + worth("!-5") + worth("!!7"), "1001");
        due("~", worth("~0") + worth("~-1"), "-10");
        due("-", worth("-0") + worth("- -3") + worth("-(2-5)"), "033");
        due("+", worth("+5") + worth("+-5"), "5-5");
        due("ahead of the strongest", worth("-2*3") + worth("!0*5") + worth("2*-3") + worth("~1<<1"), "-65-6-4");
        due("brackets", worth("(1+2)*3") + worth("((4))"), "94");
        due("nothing in brackets", worth("()"), "8@1");
        due("not closed", worth("(1"), "8@2");
        due("closed too often", worth("1)"), "8@1");
        due("nothing ahead of a sign", worth("*1"), "8@0");
        due("nothing behind a sign", worth("1+"), "8@2");
        due("nothing behind !", worth("! "), "8@2");
        due("two worths", worth("1 2"), "8@2");
        due("a string", worth("\"1\""), "8@0");
        due("a comma", worth("1,2"), "8@1");
        due("no second part", worth("1?:2"), "8@2");
        due("no third part", worth("1?2:"), "8@4");
        due("no colon", worth("1?2"), "8@3");
        due("a colon alone", worth("1:2"), "8@1");
        due("a third colon", worth("1?2:3:4"), "8@5");
        due("nothing", worth(""), "8@0");
        due("blanks", worth("   "), "8@3");

        sentence("What is not so is 0, else 1");
        due("so", worth("1<2") + worth("2<=2") + worth("2>1") + worth("2>=2") + worth("2==2") + worth("1!=2"), "111111");
        due("not so", worth("2<2") + worth("3<=2") + worth("2>2") + worth("1>=2") + worth("1==2") + worth("2!=2"), "000000");
        due("with signs", worth("-1<0") + worth("0x8000000000000000<0x7fffffffffffffff"), "11");
        due("&& ||", worth("5&&-7") + worth("0||9") + worth("0||0") + worth("8&&0"), "1100");
    }

    private static void needed() {
        sentence("Of ? : && || only what is needed is worked out");
        due("||", worth("1||1/0") + worth("7||0%0"), "11");
        due("&&", worth("0&&1/0"), "0");
        due("second part", worth("0?1/0:5"), "5");
        due("third part", worth("1?5:1%0"), "5");
        due("needed ||", worth("0||1/0"), "9@4");
        due("needed &&", worth("1&&1/0"), "9@4");
        due("needed second", worth("1?1/0:5"), "9@3");
        due("needed third", worth("0?5:1/0"), "9@5");
        due("the condition", worth("1/0?1:2"), "9@1");
        due("within what is not needed", worth("0&&(1||(2?3/0:4))"), "0");
        due("a needed one behind", worth("(1||1/0)+1/0"), "9@10");
        due("chains", worth("0&&1/0||1/0"), "9@9");
        due("chains that end", worth("1||1/0||1/0") + worth("0&&1/0&&1/0"), "10");
        due("it is read though", worth("1||1/"), "8@5");

        sentence("a division by 0 that is worked out (at its SIGN's ORIGIN; E is read whole ahead of that)");
        due("/", worth("10 / 0"), "9@3");
        due("%", worth("10 % (1-1)"), "9@3");
        due("the first", worth("1/0+2/0"), "9@1");
        due("the inner one", worth("1/(2/0)"), "9@4");
        due("read whole", worth("1/0+"), "8@4");
        due("of a body", badOf("#define z 1/0", "#if 2+z"), "9 0 1 6");
        due("0 by something", worth("0/5") + worth("0%5"), "00");
    }

    private static void within() {
        sentence("8 within one another at most (brackets, signs ahead, the second and third part of ? :, each)");
        due("7 brackets", worth(times("(", 7) + "5" + times(")", 7)), "5");
        due("8 brackets", worth(times("(", 8) + "5" + times(")", 8)), "5");
        due("9 brackets", worth(times("(", 9) + "5" + times(")", 9)), "8@8");
        due("9 that are not closed", worth(times("(", 9)), "8@8");
        due("8 that are not closed", worth(times("(", 8)), "8@8");
        for (String sign : new String[] {"!", "~", "-", "+"}) {
            due("7 " + sign, worth(times(sign, 7) + "0").startsWith("8@"), false);
            due("8 " + sign, worth(times(sign, 8) + "0"), "0");
            due("9 " + sign, worth(times(sign, 9) + "0"), "8@8");
        }
        due("8 second parts", worth(times("1?", 8) + "5" + times(":0", 8)), "5");
        due("9 second parts", worth(times("1?", 9) + "5" + times(":0", 9)), "8@18");
        due("8 third parts", worth(times("0?1:", 8) + "5"), "5");
        due("9 third parts", worth(times("0?1:", 9) + "5"), "8@34");
        due("the first part is none", worth(times("(", 7) + "1?2:3" + times(")", 7)), "2");
        due("a bracket in the 8th part", worth(times("0?1:", 8) + "(5)"), "8@32");
        due("a sign in the 8th part", worth(times("0?1:", 8) + "-5"), "8@32");
        due("a part in the 8th bracket", worth(times("(", 8) + "1?2:3" + times(")", 8)), "8@10");
        due("a third part in the 8th bracket", worth(times("(", 8) + "0? 2:3" + times(")", 8)), "8@11");
        due("mixed, 8", worth("(-(-(-(-5))))"), "5");
        due("mixed, 9", worth("(-(-(-(-(5)))))"), "8@8");
        due("mixed with parts, 8", worth("(0?1:(0?1:(0?1:(0?1:5))))"), "5");
        due("mixed with parts, 9", worth("(0?1:(0?1:(0?1:(0?1:(5)))))"), "8@20");
        due("beside one another", worth("((((((((1))))))))+((((((((2))))))))+--------3"), "6");
        due("as a condition", worth("((((((((1))))))))?2:3"), "2");
        due("a ninth that is not needed", worth("1||" + times("(", 9) + "1" + times(")", 9)), "8@11");
        due("a ninth that comes by a macro", badOf("#define b (((((((((1)))))))))", "#if b"), "8 0 1 4");
        due("a ninth part at the end", worth(times("0?1:", 8) + "0?"), "8@34");
    }

    public static void main(String[] args) {
        names();
        arguments();
        strings();
        pastes();
        blanks();
        origins();
        definedNames();
        numbers();
        strengths();
        needed();
        within();
        close("edges of expanding and of E");
    }
}
