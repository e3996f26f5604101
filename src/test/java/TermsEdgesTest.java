/** The boundary cases of "Terms": each sentence with a limit at it, below it and beyond it. */
public final class TermsEdgesTest extends Probe {

    private static void files() {
        sentence("FILES: four, numbered from 0");
        for (int k = 0; k < 4; k++) {
            HideSets x = new HideSets();
            due("file " + k, file(x, k, "a", "b"), 2);
            due("lines " + k, x.lines(k), 2);
            due("run " + k, x.run(k), 2);
            due("its origin", token(x, 1, 2) * 10 + token(x, 1, 3), 10 * k + 1);
            due("it alone was told", x.count(0), 1);
        }
        HideSets x = new HideSets();
        due("file -1", file(x, -1, "a"), -2);
        due("file 4", file(x, 4, "a"), -2);
        due("none was told", x.count(0), 0);
        for (int k = 0; k < 4; k++) {
            file(x, k, times("x\n", k));
        }
        due("all four", x.count(0), 4);
        due("each by itself", x.lines(0) + 10 * x.lines(1) + 100 * x.lines(2) + 1000 * x.lines(3), 3210);
    }

    private static void bytesOfFiles() {
        sentence("bytes 32 to 126");
        HideSets x = new HideSets();
        for (int b = 0; b < 256; b++) {
            boolean can = b >= 32 && b <= 126 || b == 10;
            due("byte " + b, file(x, 0, "a" + (char) b + "a"), !can ? -1001 : b == 10 ? 2 : 1);
        }
        x = with(" ~");
        due("32 and 126 run", x.run(0), 1);
        due("126 is a sign", word(x, 0), "~");
    }

    private static void linesOfFiles() {
        sentence("LINES parted by 10 (behind the last one none is needed)");
        HideSets x = new HideSets();
        due("without", file(x, 0, "a", "b"), 2);
        x.run(0);
        due("its tokens", all(x), "a.b");
        due("with", file(x, 0, "a", "b", ""), 2);
        x.run(0);
        due("its tokens, too", all(x), "a.b");
        due("10 10", file(x, 0, "a", "b", "", ""), 3);
        due("10 first", file(x, 0, "", "a"), 2);
        due("a blank behind the last 10 is a line", file(x, 0, "a", " "), 2);

        sentence("400 bytes at most");
        due("399", file(x, 0, times("a", 399)), 1);
        due("400", file(x, 0, times("b", 400)), 1);
        due("401", file(x, 0, times("c", 401)), -3);
        due("440", file(x, 0, times("c", 440)), -3);
        due("400 with a 10 last", file(x, 0, times("a", 399) + "\n"), 1);
        due("400 and a 10", file(x, 0, times("a", 400) + "\n"), -3);
        due("400 in lines of ten", file(x, 0, times("123456789\n", 40)), 40);
        due("all of them run", x.run(0), 40);
        due("the last one", word(x, 39) + token(x, 39, 3), "12345678939");
        due("a line of 400 bytes", file(x, 0, times(" ", 399) + "z"), 1);
        due("it runs", x.run(0), 1);
        due("the last place", token(x, 0, 4), 399);
        due("a line of 400 with its fault at the end", file(x, 0, "#if" + times(" ", 397)), 1);
        x.run(0);
        due("place 400", bad(x), "8 0 0 400");
        due("400 tokens of one byte are too many to come out", badOf(times("+-", 200)), "7 0 0 300");

        sentence("40 LINES at most");
        due("39", file(x, 1, times("a\n", 39)), 39);
        due("40", file(x, 1, times("a\n", 40)), 40);
        due("41", file(x, 1, times("a\n", 41)), -3);
        due("39 and one without 10", file(x, 1, times("a\n", 39) + "b"), 40);
        x.run(1);
        due("the last of 40", word(x, 39) + token(x, 39, 3), "b39");
        due("40 and one without 10", file(x, 1, times("a\n", 40) + "b"), -3);
        due("40 empty ones", file(x, 1, times("\n", 40)), 40);
        due("41 empty ones", file(x, 1, times("\n", 41)), -3);
        due("40 stay", x.lines(1), 40);
    }

    private static void tokens() {
        sentence("In a LINE blanks (32) part TOKENS");
        due("one", apart("a b"), "a b");
        due("many", apart("   a    b   "), " a b");
        due("none is a token", apart("    "), "");
        due("not in a string", apart("\" a  b \""), "\" a  b \"");
        due("signs apart", apart("= = < < # #"), "= = < < # #");

        sentence("NAMES: a letter or _, and on as long as letters, digits, _ follow");
        due("first and last letters", apart("a`z{A@Z[_^"), "a.`.z.{.A.@.Z.[._.^");
        due("all that may follow", apart("_azAZ09_/"), "_azAZ09_./");
        due("one byte", kinds("a _ z A Z"), "0 0 0 0 0");

        sentence("NUMBERS: a digit, and on likewise");
        due("0 and 9", apart("0/9:"), "0./.9.:");
        due("letters follow", apart("1a_Z9+0x.5"), "1a_Z9.+.0x...5");
        due("kinds", kinds("0 9 1a_ 0xg"), "1 1 1 1");

        sentence("STRINGS: \" up to the next \"");
        due("empty", apart("\"\""), "\"\"");
        due("two", apart("\"\"\"\""), "\"\".\"\"");
        due("beside names", apart("a\"b\"c"), "a.\"b\".c");
        due("signs within", apart("\"## == a'\\\""), "\"## == a'\\\"");
        due("not closed", apart("a \"b"), "1 -1 -1 2");
        due("alone", apart("\""), "1 -1 -1 0");
        due("three", apart("\"\"\""), "1 -1 -1 2");
        due("kinds", kinds("\"\" \"a\""), "2 2");

        sentence("SIGNS: ## == != <= >= && || << >>, else one byte");
        due("the nine", apart("## == != <= >= && || << >>"), "## == != <= >= && || << >>");
        due("their kinds", kinds("## == != <= >= && || << >>"), "3 3 3 3 3 3 3 3 3");
        due("with one more", apart("### === !== <== >== &&& ||| <<< >>>"), "##.# ==.= !=.= <=.= >=.= &&.& ||.| <<.< >>.>");
        due("four", apart("####"), "##.##");
        due("not the other way", apart("=! =< => +=-- !! <> >< ## ~~"), "=.! =.< =.> +.=.-.- !.! <.> >.< ## ~.~");
        due("mixed", apart("<<=>>=&|"), "<<.=.>>.=.&.|");
        due("each other byte", apart("!$%&'()*+,-./:;<=>?@[\\]^`{|}~#"),
                "!.$.%.&.'.(.).*.+.,.-.../.:.;.<=.>.?.@.[.\\.].^.`.{.|.}.~.#");
    }

    private static String kinds(String line) {
        HideSets x = new HideSets();
        expand(x, line);
        return each(x, 0);
    }

    private static void lengths() {
        sentence("30 bytes each at most");
        due("a name of 29", apart(times("n", 29)).length(), 29);
        due("of 30", apart(times("n", 30)).length(), 30);
        due("of 31", apart(" " + times("n", 31)), "1 -1 -1 1");
        due("of 440", apart(times("n", 440)), "1 -1 -1 0");
        due("a number of 30", apart(times("9", 30)).length(), 30);
        due("of 31", apart(times("9", 31)), "1 -1 -1 0");
        due("a string of 29", apart("\"" + times("s", 27) + "\"").length(), 29);
        due("of 30", apart("\"" + times("s", 28) + "\"").length(), 30);
        due("of 31", apart("\"" + times("s", 29) + "\""), "1 -1 -1 0");
        due("of 30 in a run", allOf(times("n", 30) + " \"" + times("s", 28) + "\"").length(), 61);
        due("of 31 in a run", badOf("", "a +" + times("n", 31)), "1 0 1 3");
        due("how many bytes", token(ran(times("n", 30)), 0, 1), 30);
        due("the last byte", ran(times("n", 29) + "m").tokenAt(0, 29), 'm');
        due("behind it", ran(times("n", 30)).tokenAt(0, 30), -1);
        due("a macro of 30", allOf("#define " + times("n", 30) + " 1", times("n", 30) + " " + times("n", 29)), "1 " + times("n", 29));
        due("of 31", badOf("#define " + times("n", 31)), "1 0 0 8");
        due("a parameter of 30", allOf("#define f(" + times("p", 30) + ") " + times("p", 30) + " p", "f(1)"), "1 p");

        sentence("A TOKEN has a BLANK, if one is just ahead of it");
        due("first without", apart("a"), "a");
        due("first with", apart(" a"), " a");
        due("beside", apart("a+ +b"), "a.+ +.b");
        due("a blank within a string is none", apart("\" \"a"), "\" \".a");
        due("first of a second line", allOf("a ", "b", " c"), "a.b c");
    }

    private static void directives() {
        sentence("A LINE whose first TOKEN is # is a DIRECTIVE");
        due("at once", allOf("#define a 1", "a"), "1");
        due("blanks ahead and behind", allOf("   #   define a 1", "a"), "1");
        due("## is not #", allOf("##define a 1"), "##.define a 1");
        due("not the first", allOf("a #define b"), "a #.define b");
        due("not from a macro", allOf("#define h #", "h define a 1", "a"), "# define a 1.a");

        sentence("# alone: nothing is done");
        HideSets x = ran("#", "  #  ", "x");
        due("no fault", bad(x), "0 -1 -1 -1");
        due("nothing comes", all(x), "x");
        due("no text", x.now(1), 1);
        due("with something it is no more", badOf("# ;"), "2 0 0 2");
        due("nor with ##", badOf("# ##"), "2 0 0 2");

        sentence("each other one is TEXT");
        x = ran("", "  ", "x");
        due("empty ones, too", x.now(1), 3);

        sentence("# define NAME BODY");
        due("an empty body", allOf("#define a", "<a>"), "<.>");
        due("blanks alone", allOf("#define a   ", "<a>"), "<.>");
        due("no name", badOf("#define"), "2 0 0 7");
        due("no name, blanks", badOf("#define  "), "2 0 0 9");
        due("a number", badOf("#define 1a"), "2 0 0 8");
        due("a string", badOf("#define \"a\""), "2 0 0 8");
        due("a sign", badOf("#define (a)"), "2 0 0 8");
        due("a bracket behind a blank is of the body", allOf("#define f (x) x", "f"), "(.x.) x");
        due("an open one, too", allOf("#define f (", "f"), "(");

        sentence("# undef NAME");
        due("what is no macro", badOf("#undef zz"), "0 -1 -1 -1");
        due("nothing", badOf("#undef"), "2 0 0 6");
        due("two", badOf("#undef a b"), "2 0 0 9");
        due("no name", badOf("#undef 1"), "2 0 0 7");
        due("it is none then", allOf("#define a 1", "#undef a", "a", "#define a 2", "a"), "a.2");

        sentence("# include K (a NUMBER of one digit)");
        for (int k = 0; k < 10; k++) {
            x = with("#include " + k);
            file(x, 1, "one");
            file(x, 2, "two");
            file(x, 3, "three");
            x.run(0);
            due("include " + k, x.fault(0), k >= 1 && k <= 3 ? 0 : 11);
        }
        due("two digits", badOf("#include 01"), "2 0 0 9");
        due("a letter behind", badOf("#include 1x"), "2 0 0 9");
        due("a name", badOf("#include x"), "2 0 0 9");
        due("a name that is a macro", badOf("#define x 1", "#include x"), "2 0 1 9");
        due("nothing", badOf("#include"), "2 0 0 8");
        x = with("#include 1", "#include");
        file(x, 1, "");
        x.run(0);
        due("nothing behind one that had it", bad(x), "2 0 1 8");
        due("a string", badOf("#include \"1\""), "2 0 0 9");

        sentence("# ifdef NAME | # ifndef NAME");
        due("ifdef without", badOf("#ifdef", "#endif"), "2 0 0 6");
        due("ifndef without", badOf("#ifndef ", "#endif"), "2 0 0 8");
        due("ifdef of a number", badOf("#ifdef 1", "#endif"), "2 0 0 7");
        due("ifndef of two", badOf("#ifndef a b", "#endif"), "2 0 0 10");
        due("ifdef of defined", allOf("#ifdef defined", "a", "#else", "b", "#endif"), "b");

        sentence("# else | # endif");
        due("else and more", badOf("#if 1", "#else 1", "#endif"), "2 0 1 6");
        due("endif and more", badOf("#if 1", "#endif 1"), "2 0 1 7");
        due("other names", badOf("#elseif"), "2 0 0 1");
        due("great letters", badOf("#IF 1"), "2 0 0 1");
    }

    private static void parameters() {
        sentence("# define NAME( [ NAME { , NAME } ] ) BODY (no blank ahead of the bracket: PARAMETERS");
        due("none", macro(ran("#define f() 1"), 0, 1), 0);
        due("none, a blank within", macro(ran("#define f( ) 1"), 0, 1), 0);
        due("without", macro(ran("#define f 1"), 0, 1), -1);
        due("a blank ahead", macro(ran("#define f () 1"), 0, 1), -1);
        due("blanks within", macro(ran("#define f( a , b ) 1"), 0, 1), 2);
        due("its body behind them", macro(ran("#define f(a,b)c"), 0, 2), 1);
        due("a comma alone", badOf("#define f(,)"), "2 0 0 10");
        due("a comma first", badOf("#define f(,a)"), "2 0 0 10");
        due("a comma last", badOf("#define f(a,)"), "2 0 0 12");
        due("two commas", badOf("#define f(a,,b)"), "2 0 0 12");
        due("no comma", badOf("#define f(a b)"), "2 0 0 12");
        due("no comma, at the end", badOf("#define f(a b"), "2 0 0 12");
        due("a number at the end", badOf("#define f(a,b 5"), "2 0 0 14");
        due("a number", badOf("#define f(1)"), "2 0 0 10");
        due("a bracket", badOf("#define f((a))"), "2 0 0 10");
        due("open", badOf("#define f("), "2 0 0 10");
        due("open behind one", badOf("#define f(a "), "2 0 0 12");
        due("open behind a comma", badOf("#define f(a,"), "2 0 0 12");

        sentence("4 at most");
        due("3", macro(ran("#define f(a,b,c) a b c"), 0, 1), 3);
        due("4", macro(ran("#define f(a,b,c,d) d"), 0, 1), 4);
        due("the fourth", allOf("#define f(a,b,c,d) d a", "f(1,2,3,4)"), "4 1");
        due("5", badOf("#define f(a,b,c,d,e)"), "7 0 0 18");
        due("a fifth that is no name", badOf("#define f(a,b,c,d,5)"), "2 0 0 18");
        due("a fifth that is not told", badOf("#define f(a,b,c,d,)"), "2 0 0 18");
        due("the end in place of a fifth", badOf("#define f(a,b,c,d,"), "2 0 0 18");
        due("6 are too many at the fifth", badOf("#define f(a,b,c,d,e,a)"), "7 0 0 18");

        sentence("unlike");
        due("the second", badOf("#define f(a,a)"), "2 0 0 12");
        due("the fourth", badOf("#define f(a,b,c,b)"), "2 0 0 16");
        due("a fifth, the least fault", badOf("#define f(a,b,c,d,d)"), "2 0 0 18");
        due("longer ones", macro(ran("#define f(a,aa,aaa,A) a"), 0, 1), 4);
        due("as the macro's own name", allOf("#define f(f) f", "f(1)"), "1");
    }

    private static void bodies() {
        sentence("BODY: TOKENS to the LINE's end, 20 at most");
        due("0", macro(ran("#define a"), 0, 2), 0);
        due("1", macro(ran("#define a b"), 0, 2), 1);
        due("19", macro(ran("#define a " + times("b ", 19)), 0, 2), 19);
        due("20", macro(ran("#define a " + times("b ", 20)), 0, 2), 20);
        due("21", badOf("#define a " + times("b ", 21)), "7 0 0 50");
        due("25", badOf("#define a " + times("b ", 25)), "7 0 0 50");
        due("20 behind parameters", macro(ran("#define f(x,y) " + times("b ", 20)), 0, 2), 20);
        due("21 behind parameters", badOf("#define f(x,y) " + times("b ", 21)), "7 0 0 55");
        due("20 behind none", macro(ran("#define f()" + times("+ ", 20)), 0, 2), 20);
        due("21 behind none", badOf("#define f()" + times("+ ", 21)), "7 0 0 51");
        due("20 come", ran("#define a " + times("b ", 20), "a").now(1), 1);
        due("20 with ##", allOf("#define f(x) x" + times("##x", 9) + " x", "f(a)"), "aaaaaaaaaa a");
        due("ten strings", ran("#define f(x) " + times("#x ", 10), "f(a)").now(8), 10);
        due("a 21st with # ahead of it", badOf("#define f(x) " + times("#x ", 10) + "#x"), "7 0 0 43");
        due("a fault ahead of the 21st", badOf("#define a ## " + times("b ", 21)), "2 0 0 10");
        due("a fault behind the 21st", badOf("#define a " + times("b ", 22) + "##"), "7 0 0 50");
        due("then it is no macro", ran("#define a " + times("b ", 21)).now(0), 0);

        sentence("## is not its first or last one, nor behind another ##");
        due("first", badOf("#define a ## b"), "2 0 0 10");
        due("last", badOf("#define a b ##"), "2 0 0 12");
        due("alone", badOf("#define a ##"), "2 0 0 10");
        due("then it is no macro", ran("#define a ##").now(0), 0);
        due("behind another", badOf("#define a b ## ## c"), "2 0 0 15");
        due("beside another", badOf("#define a b####c"), "2 0 0 13");
        due("first behind parameters", badOf("#define f(x)##x"), "2 0 0 12");
        due("first behind none", badOf("#define f() ## x"), "2 0 0 12");
        due("last behind parameters", badOf("#define f(x) x ##"), "2 0 0 15");
        due("second and last but one", allOf("#define a b ## c", "a"), "bc");
        due("the 20th, last", badOf("#define a " + times("b ", 19) + "##"), "2 0 0 48");
        due("the 20th of 21", badOf("#define a " + times("b ", 19) + "## b"), "7 0 0 51");

        sentence("with PARAMETERS told (or none in the brackets) a # is ahead of a PARAMETER");
        due("it is", allOf("#define f(x) #x", "f(a)"), "\"a\"");
        due("with a blank", allOf("#define f(x) # x", "f(a)"), "\"a\"");
        due("of another name", badOf("#define f(x) #y"), "2 0 0 13");
        due("then it is no macro", ran("#define f(x) #y").now(0), 0);
        due("of a number", badOf("#define f(x) x #1"), "2 0 0 15");
        due("last", badOf("#define f(x) x #"), "2 0 0 15");
        due("of a #", badOf("#define f(x) # # x"), "2 0 0 13");
        due("of none", badOf("#define f() #x"), "2 0 0 12");
        due("of none, last", badOf("#define f() #"), "2 0 0 12");
        due("without parameters it may be", allOf("#define a # x #", "a"), "# x #");
        due("behind a blank bracket, too", allOf("#define f (x) #y", "f"), "(.x.) #.y");
        due("the 21st that is ahead of none", badOf("#define f(x) " + times("x ", 20) + "#"), "2 0 0 53");
    }

    private static void switchesAndMacros() {
        sentence("SWITCHES: 3 NAMES at most");
        HideSets x = new HideSets();
        due("none", switches(x, ""), 0);
        due("1", switches(x, "a"), 1);
        due("2", switches(x, "a b"), 2);
        due("3", switches(x, "a b c"), 3);
        due("4", switches(x, "a b c d"), -1);
        due("3 stay", x.count(1), 3);

        sentence("by a SETTING (bits) some are defined");
        file(x, 0, "a b c");
        String[] want = {"a b c", "1 b c", "a 1 c", "1 1 c", "a b 1", "1 b 1", "a 1 1", "1 1 1"};
        for (int s = 0; s < 8; s++) {
            x.set(s);
            x.run(0);
            due("setting " + s, all(x), want[s]);
        }

        sentence("MACROS of a run are numbered as they were defined first, behind the SWITCHES (0 on, defined or not)");
        x = new HideSets();
        switches(x, "s t");
        x.set(2);
        file(x, 0, "#define b", "#define a", "#undef b", "#define c", "#define b", "#define s");
        x.run(0);
        due("names", macroName(x, 0) + macroName(x, 1) + macroName(x, 2) + macroName(x, 3) + macroName(x, 4), "stbac");
        due("no more", x.now(0), 5);

        sentence("12 NAMES at most with these");
        due("11", numbered(0, 11), "11 0 -1 -1 -1");
        due("12", numbered(0, 12), "12 0 -1 -1 -1");
        due("13", numbered(0, 13), "12 7 0 12 8");
        due("3 switches and 8", numbered(3, 8), "11 0 -1 -1 -1");
        due("3 switches and 9", numbered(3, 9), "12 0 -1 -1 -1");
        due("3 switches and 10", numbered(3, 10), "12 7 0 9 8");
        x = with(twelve() + "#undef m0\n#define m0 x\nm0\n#undef m1");
        due("one of them again", x.run(0), 1);
        due("still 12", x.now(0), 12);
        file(x, 0, twelve() + "#undef m0\n#define q");
        x.run(0);
        due("one that is undefined counts", bad(x), "7 0 13 8");
        file(x, 0, twelve() + "#define m3");
        x.run(0);
        due("one that stands is fault 5", bad(x), "5 0 12 8");
        file(x, 0, twelve() + "#define defined");
        x.run(0);
        due("defined is fault 2", bad(x), "2 0 12 8");
        file(x, 0, twelve() + "#define q ##");
        x.run(0);
        due("at the name, ahead of its body", bad(x), "7 0 12 8");
        file(x, 0, twelve() + "m11 m0");
        x.run(0);
        due("the last one hides", hides(x), "2048 1");
        x = new HideSets();
        switches(x, "s t u");
        file(x, 0, nine() + "#define u 5", "u");
        x.run(0);
        due("a switch that is not defined has its number", all(x) + bad(x) + x.now(0), "50 -1 -1 -112");

        sentence("A SWITCH that is defined is a MACRO without PARAMETERS, its BODY 1. It has no FILE");
        x = new HideSets();
        switches(x, "s");
        x.set(1);
        file(x, 0, "s(2) s");
        x.run(0);
        due("its body", all(x), "1.(.2.) 1");
        due("a number", token(x, 0, 0), 1);
        due("its origin", token(x, 4, 2) * 100 + token(x, 4, 3) * 10 + token(x, 4, 4), 5);
        due("it hides", hides(x), "1 0 0 0 1");
        due("defined, without, one token", macro(x, 0, 0) * 100 + macro(x, 0, 1) * 10 + macro(x, 0, 2), 91);
        due("no file", macro(x, 0, 3), -1);
        due("no line", macro(x, 0, 4), -1);
        file(x, 0, "#define s 2");
        x.run(0);
        due("define of it", bad(x), "5 0 0 8");
        file(x, 0, "#undef s", "s", "#define s 2", "s");
        x.run(0);
        due("it can be undefined", all(x), "s.2");
    }

    private static String twelve() {
        StringBuilder b = new StringBuilder();
        for (int i = 0; i < 12; i++) {
            b.append("#define m").append(i).append(" 1\n");
        }
        return b.toString();
    }

    private static String nine() {
        StringBuilder b = new StringBuilder();
        for (int i = 0; i < 9; i++) {
            b.append("#define m").append(i).append("\n");
        }
        return b.toString();
    }

    private static String numbered(int switches, int defines) {
        HideSets x = new HideSets();
        switches(x, switches == 3 ? "s t u" : "");
        StringBuilder b = new StringBuilder();
        for (int i = 0; i < defines; i++) {
            b.append("#define n").append(i).append("\n");
        }
        file(x, 0, b.toString());
        x.run(0);
        return x.now(0) + " " + bad(x);
    }

    public static void main(String[] args) {
        files();
        bytesOfFiles();
        linesOfFiles();
        tokens();
        lengths();
        directives();
        parameters();
        bodies();
        switchesAndMacros();
        close("edges of the terms");
    }
}
