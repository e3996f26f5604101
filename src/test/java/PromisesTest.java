/** Each promise of the document by its number: ordinary inputs, edges that it names, wrong inputs. */
public final class PromisesTest extends Probe {
    private static void due(int promise, String what, long got, long want) {
        due("promise " + promise + ", " + what, got, want);
    }

    private static void due(int promise, String what, boolean got, boolean want) {
        due("promise " + promise + ", " + what, got, want);
    }

    private static void due(int promise, String what, String got, String want) {
        due("promise " + promise + ", " + what, got, want);
    }

    // ---- the promises

    private static void promise1() {
        HideSets x = new HideSets();
        due(1, "NONE", HideSets.NONE, -1);
        for (int i = 0; i < 4; i++) {
            due(1, "count " + i, x.count(i), 0);
            due(1, "lines " + i, x.lines(i), -1);
            due(1, "run " + i, x.run(i), -1);
        }
        due(1, "nothing was run", nows(x), "0 0 0 0 0 0 0 0 0 0");
        due(1, "no fault", bad(x), "0 -1 -1 -1");
        due(1, "no tokens", all(x), "");
        due(1, "no macro", macro(x, 0, 0), THREW);
        due(1, "no setting 1", x.set(1), -1);
        due(1, "no guard", x.guardAt(0), -1);
        due(1, "no image", x.restore(0) || x.restore(1), false);
    }

    private static void promise2() {
        HideSets x = new HideSets();
        due(2, "feed", x.feed(0x61620a63, 0x20202020, 0, -1, 0x7e000000), 20);
        due(2, "end", x.end(4), true);
        due(2, "highest byte first", x.file(0), 2);
        x.run(0);
        due(2, "the bytes", all(x), "ab.c");
        for (int n = 1; n <= 22; n++) {
            due(2, "feed " + n, x.feed(0, 0, 0, 0, 0), 20 * n);
        }
        due(2, "feed beyond 440", x.feed(1, 2, 3, 4, 5), -1);
        due(2, "none came", x.count(3), 440);
        x.end(421);
        due(2, "feed beyond 440 from 421", x.feed(1, 2, 3, 4, 5), -1);
        x.end(420);
        due(2, "feed to 440", x.feed(1, 2, 3, 4, 5), 440);
        tell(x, "ab");
        x.feed(0x63640000, 0, 0, 0, 0);
        x.end(4);
        due(2, "behind the tape", x.expand() == 1 ? word(x, 0) : "", "abcd");
    }

    private static void promise3() {
        HideSets x = new HideSets();
        due(3, "end of the empty tape", x.end(0), true);
        due(3, "not so many", x.end(1), false);
        due(3, "below 0", x.end(-1), false);
        x.feed(0, 0, 0, 0, 0);
        due(3, "all of it", x.end(20), true);
        due(3, "one more", x.end(21), false);
        due(3, "it stays", x.count(3), 20);
        due(3, "half", x.end(7), true);
        due(3, "half is left", x.count(3), 7);
        due(3, "least number", x.end(Integer.MIN_VALUE), false);
    }

    private static void promise4() {
        HideSets x = new HideSets();
        due(4, "no bytes", file(x, 0, ""), 0);
        due(4, "it is told", x.lines(0), 0);
        due(4, "one line", file(x, 0, "a"), 1);
        due(4, "10 behind it", file(x, 0, "a", ""), 1);
        due(4, "10 alone", file(x, 0, "", ""), 1);
        due(4, "two empty ones", file(x, 0, "", "", ""), 2);
        due(4, "no such k", file(x, 4, "a"), -2);
        due(4, "the tape is empty then", x.count(3), 0);
        due(4, "no such k below", file(x, -1, "a"), -2);
        due(4, "400 bytes", file(x, 1, times("a ", 200)), 1);
        due(4, "401 bytes", file(x, 1, times("a", 401)), -3);
        due(4, "it stays", x.lines(1), 1);
        due(4, "too many ahead of a byte", file(x, 1, "\t" + times("a", 400)), -3);
        due(4, "a byte that can't be", file(x, 1, "ab", "c\t"), -1004);
        due(4, "the first one", file(x, 1, "\u007f\u0000"), -1000);
        due(4, "a high byte", file(x, 1, "a\u00e9"), -1001);
        due(4, "the tape is empty with that, too", x.count(3), 0);
        due(4, "126", file(x, 1, "~ "), 1);
        due(4, "40 lines", file(x, 2, times("\n", 40)), 40);
        due(4, "41 lines", file(x, 2, times("\n", 41)), -3);
        due(4, "41 lines, the last without 10", file(x, 2, times("\n", 40) + "a"), -3);
        due(4, "a byte ahead of lines", file(x, 2, times("\n", 41) + "\t"), -1041);
        due(4, "lines stay", x.lines(2), 40);
    }

    private static void promise5() {
        HideSets x = new HideSets();
        due(5, "two", switches(x, "s t"), 2);
        x.set(3);
        due(5, "three", switches(x, "  a1 _b   C "), 3);
        due(5, "setting is 0", x.count(2), 0);
        x.set(5);
        due(5, "four", switches(x, "a b c d"), -1);
        due(5, "the tape is empty then", x.count(3), 0);
        due(5, "alike", switches(x, "a b a"), -1);
        due(5, "defined", switches(x, "a defined"), -1);
        due(5, "no name", switches(x, "a 1b"), -1);
        due(5, "a sign", switches(x, "a,b"), -1);
        due(5, "a 10", switches(x, "a\nb"), -1);
        due(5, "31 bytes", switches(x, times("a", 31)), -1);
        due(5, "they stay", x.count(1), 3);
        due(5, "setting stays", x.count(2), 5);
        due(5, "30 bytes", switches(x, times("a", 30)), 1);
        due(5, "none", switches(x, "  "), 0);
        due(5, "prefixes", switches(x, "a aa aaa"), 3);
        file(x, 0, "aa");
        x.set(2);
        x.run(0);
        due(5, "numbered as told", macro(x, 1, 0) * 10 + macro(x, 0, 0), 10);
        due(5, "body 1", all(x), "1");
        due(5, "name", x.macroAt(2, 2), 'a');
    }

    private static void promise6() {
        HideSets x = new HideSets();
        due(6, "0 without switches", x.set(0), 0);
        due(6, "1 without switches", x.set(1), -1);
        switches(x, "s t");
        due(6, "3", x.set(3), 0);
        due(6, "4", x.set(4), -1);
        due(6, "-1", x.set(-1), -1);
        due(6, "it stays", x.count(2), 3);
        due(6, "0", x.set(0), 0);
        due(6, "it is set", x.count(2), 0);
    }

    private static void promise7() {
        HideSets x = with("#define a 1", "a b", "", "a");
        due(7, "run", x.run(0), 3);
        due(7, "tokens", all(x), "1 b.1");
        due(7, "not told", x.run(1), -1);
        due(7, "no such", x.run(4), -1);
        due(7, "no such below", x.run(-1), -1);
        due(7, "tokens stay", all(x), "1 b.1");
        file(x, 0, "x", "y \"", "z");
        due(7, "a fault", x.run(0), -2);
        due(7, "lines ahead of it came out", all(x), "x");
        file(x, 0, "x", "y f(", "z");
        due(7, "no fault", x.run(0), 5);
        file(x, 0, "#define f(a) a", "x", "y y f(", "z");
        due(7, "a fault behind tokens", x.run(0), -2);
        due(7, "all of a line or none", all(x), "x");
        file(x, 0, "#define a " + times("+ ", 20), "#define b a a", times("a", 1) + times(" a", 14));
        due(7, "300 tokens", x.run(0), 300);
        tell(x, times("a ", 15) + "z y").edit(0, 2);
        due(7, "a 301st", x.run(0), -2);
        due(7, "its place", bad(x), "7 0 2 30");
        due(7, "the first 300 came out", token(x, 299, 0), 3);
        due(7, "no more", token(x, 300, 0), THREW);
        due(7, "that line is not passed on", x.now(1), 0);
        switches(x, "s");
        file(x, 0, "s");
        x.set(1);
        x.run(0);
        due(7, "by the setting", all(x), "1");
        file(x, 0, "");
        due(7, "nothing", x.run(0), 0);
        file(x, 0, "1 \"a b\" == =", "#", " # ", "##", "#define z 9", "#ifdef z", "x", "#else", "\"", "#bad", "#endif");
        due(7, "directives and text", x.run(0), 6);
        due(7, "their tokens", all(x), "1 \"a b\" == =.##.x");
    }

    private static void promise7Expanding() {
        due(7, "object", all(ran("#define a b  c", "a a+a")), "b c b c.+.b c");
        due(7, "hidden in itself", all(ran("#define a a b", "a")), "a b");
        due(7, "hide set", hides(ran("#define a a b", "#define b a", "a")), "1 3");
        due(7, "two that call one another", all(ran("#define a b", "#define b a", "a b")), "a b");
        due(7, "no bracket follows", all(ran("#define f(x) x", "f f +f")), "f f +.f");
        due(7, "bracket after a blank", all(ran("#define f(x) <x>", "f (1)")), "<.1.>");
        due(7, "inner brackets", all(ran("#define f(x,y) y x", "f((1,2),(3))")), "(.3.) (.1.,.2.)");
        due(7, "none in the brackets", all(ran("#define f() 1", "f() f( )")), "1 1");
        due(7, "one of no tokens", all(ran("#define f(x) <x>", "f() f( )")), "<.> <.>");
        due(7, "argument expanded first", all(ran("#define a 1", "#define f(x) x #x x##2", "f(a)")), "1 \"a\" a2");
        due(7, "expanded anew", ran("#define a 1", "#define f(x) x x x", "f(a)").now(6), 4);
        due(7, "unused argument is not expanded", ran("#define a 1", "#define f(x) 2", "f(a)").now(6), 1);
        due(7, "name at the end of an argument", all(ran("#define f(x) x(2)", "#define g(x) [x]", "f(g)")), "[.2.]");
        due(7, "closing bracket's hide set", hides(ran("#define f(a) a*g", "#define g(a) f(a)", "f(2)(9)")), "1 1 3 3 3");
        due(7, "string", all(ran("#define s(x) # x", "s( a  +b \"c\" ) s()")), "\"a +b 'c'\" \"\"");
        due(7, "string of 30 bytes", all(ran("#define s(x) #x", "s(" + times("a", 28) + ")")).length(), 30);
        due(7, "paste", all(ran("#define c(x,y) x##y", "c(a,b)c(1,e2) c(<,<) c(#,#)")), "ab.1e2 << ##");
        due(7, "paste of rows", all(ran("#define c(x,y) [x ## y]", "c(1 2,3 4)")), "[.1 23 4.]");
        due(7, "nothing pasted", all(ran("#define c(x,y,z) x##y##z", "c(,,) c(a,,b) c(,,b) c(a,,)")), " ab b a");
        due(7, "nothing ahead does not reach back", all(ran("#define c(x) 1 x##2", "c()")), "1.2");
        due(7, "nothing behind does not reach on", all(ran("#define c(x) 1##x 2", "c()")), "1 2");
        due(7, "pasted ## is no ##", all(ran("#define h # ## #", "#define c(x) a x b", "c(h)")), "a ## b");
        due(7, "object body keeps #", all(ran("#define h # x", "h")), "# x");
        due(7, "pasted name is replaced", all(ran("#define ab 7", "#define c(x,y) x##y", "c(a,b)")), "7");
        due(7, "hide set of what is pasted", hides(ran("#define c(x,y) x##y", "#define a c(p,q) p", "a")), "3 2");
        due(7, "string beside ##", all(ran("#define c(x,y) #x##y", "c(1,)")), "\"1\"");
        due(7, "blank of what comes", all(ran("#define f(x) -x - x -#x - #x", "+f( 1)")), "+.-.1 - 1 -.\"1\" - \"1\"");
        due(7, "blank of an empty one", all(ran("#define e", "-e- e -")), "-.- -");
        due(7, "places", places(ran("#define f(x) x + x##2 #x y", " f( ab )")), "4 1 4 1 1");
        due(7, "nested", all(ran("#define f(x) <x>", "f(f(f(1)))")), "<.<.<.1.>.>.>");
    }

    private static void promise8() {
        HideSets x = new HideSets();
        due(8, "ahead of any", bad(x), "0 -1 -1 -1");
        due(8, "another what", x.fault(4), -1);
        due(8, "below", x.fault(-1), -1);
        due(8, "of a run", badOf("", "x", " \"a"), "1 0 2 1");
        due(8, "none", badOf("x"), "0 -1 -1 -1");
        x = with("\"");
        x.run(0);
        x.run(1);
        due(8, "stays with NONE", bad(x), "1 0 0 0");
        tell(x, " f").expand();
        due(8, "of expand", bad(x), "0 -1 -1 -1");
        tell(x, " f \"").expand();
        due(8, "of expand, on the tape", bad(x), "1 -1 -1 3");
        worth(x, "1/0");
        due(8, "of value", bad(x), "9 -1 -1 1");
        worth(x, "1");
        due(8, "none of value", bad(x), "0 -1 -1 -1");
    }

    private static void promise8Kinds() {
        due(8, "1 longer", badOf("a " + times("b", 31)), "1 0 0 2");
        due(8, "1 of 30", badOf("a " + times("b", 30) + " \"" + times("c", 28) + "\""), "0 -1 -1 -1");
        due(8, "1 a longer string", badOf("\"" + times("c", 29) + "\""), "1 0 0 0");
        due(8, "1 ahead of 2", badOf("#foo \""), "1 0 0 5");
        due(8, "1 ahead of 3", badOf("#define f(x) x", "f( \""), "1 0 1 3");
        due(8, "2 no such directive", badOf(" # foo"), "2 0 0 3");
        due(8, "2 no name", badOf("# 5"), "2 0 0 2");
        due(8, "2 at the end", badOf("#define  "), "2 0 0 9");
        due(8, "2 defined", badOf("#define defined 1"), "2 0 0 8");
        due(8, "2 a parameter twice", badOf("#define f(a,a) a"), "2 0 0 12");
        due(8, "2 a fifth that is alike", badOf("#define f(a,b,c,d,a)"), "2 0 0 18");
        due(8, "2 no comma", badOf("#define f(a b)"), "2 0 0 12");
        due(8, "2 nothing behind a comma", badOf("#define f(a,)"), "2 0 0 12");
        due(8, "2 brackets open", badOf("#define f(a,"), "2 0 0 12");
        due(8, "2 # ahead of none", badOf("#define f() #"), "2 0 0 12");
        due(8, "2 # of another", badOf("#define f(a) #a #b"), "2 0 0 16");
        due(8, "2 ## first", badOf("#define x ## a"), "2 0 0 10");
        due(8, "2 ## last", badOf("#define x a ##"), "2 0 0 12");
        due(8, "2 ## twice", badOf("#define x a ## ## b"), "2 0 0 15");
        due(8, "2 the last ## is a 21st", badOf("#define x " + times("a ", 20) + "##"), "2 0 0 50");
        due(8, "2 else", badOf("#if 0", "#else x", "#endif"), "2 0 1 6");
        due(8, "2 endif", badOf("#if 0", "#endif x"), "2 0 1 7");
        due(8, "2 ifdef", badOf("#ifdef"), "2 0 0 6");
        due(8, "2 ifdef and more", badOf("#ifdef a b"), "2 0 0 9");
        due(8, "2 undef", badOf("#undef 1"), "2 0 0 7");
        due(8, "2 include", badOf("#include 12"), "2 0 0 9");
        due(8, "3", badOf("#define f(x) x", "a f((1)"), "3 0 1 2");
        due(8, "3 in an argument", badOf("#define f(x) x", "#define o f(", "f(f(o))"), "3 0 2 4");
        due(8, "4 too many", badOf("#define f(x) x", " f(1,2)"), "4 0 1 1");
        due(8, "4 too few", badOf("#define f(x,y) x", " f()"), "4 0 1 1");
        due(8, "4 of none", badOf("#define f() 1", "f(,)"), "4 0 1 0");
        due(8, "4 of none, one", badOf("#define f() 1", "f(1)"), "4 0 1 0");
        due(8, "5", badOf("#define a", "#define a ## "), "5 0 1 8");
        due(8, "6 no token", badOf("#define c(x,y) x##y", "z c(-,1)"), "6 0 1 2");
        due(8, "6 pasted too long", badOf("#define c(x) x##x", "c(" + times("a", 16) + ")"), "6 0 1 0");
        due(8, "6 of 30", badOf("#define c(x) x##x", "c(" + times("a", 15) + ")"), "0 -1 -1 -1");
        due(8, "6 string too long", badOf("#define c(x) #x", "c(" + times("a", 29) + ")"), "6 0 1 0");
        due(8, "arguments ahead of pastes", badOf("#define c(x,y) x##x y", "#define f(x) x", "c(-,f(,))"), "4 0 2 4");
        due(8, "pastes ahead of 30", badOf("#define c(x) x x x x x -##1", "c(1 2 3 4 5 6 7)"), "6 0 1 0");
        due(8, "7 of 30 tokens", badOf("#define c(x) x x x x x", "c(1 2 3 4 5 6 7)"), "7 0 1 0");
        due(8, "7 just 30 tokens", badOf("#define c(x) x x x x x", "c(1 2 3 4 5 6)"), "0 -1 -1 -1");
        due(8, "7 of 100 expansions", badOf("#define a", times("a ", 100), "  a"), "7 0 2 2");
        due(8, "7 just 100", badOf("#define a", times("a ", 100)), "0 -1 -1 -1");
        due(8, "7 deep", badOf("#define f(x) x", times("f(", 101) + times(")", 101)), "7 0 1 200");
        due(8, "3 ahead of 7", badOf("#define a", "#define f(x)", times("a ", 100), "f("), "3 0 3 0");
        due(8, "7 of parameters", badOf("#define f(a,b,c,d,e)"), "7 0 0 18");
        due(8, "7 of a body", badOf("#define x " + times("a ", 21)), "7 0 0 50");
        String[] many = new String[13];
        for (int i = 0; i < 13; i++) {
            many[i] = "#define m" + i;
        }
        due(8, "7 of macros", badOf(many), "7 0 12 8");
        due(8, "8 empty", badOf("#if "), "8 0 0 4");
        due(8, "8 empty when expanded", badOf("#define e", "#if e"), "8 0 1 5");
        due(8, "8 at the origin", badOf("#define e 1 2", "#if 0+e"), "8 0 1 6");
        due(8, "9", badOf("#if 1/0"), "9 0 0 5");
        due(8, "10 endif", badOf(" #endif \""), "10 0 0 1");
        due(8, "10 elif", badOf("#elif"), "10 0 0 0");
        due(8, "10 else", badOf("#else x"), "10 0 0 0");
        due(8, "10 else twice", badOf("#if 1", "#else", "#else"), "10 0 2 0");
        due(8, "10 elif behind else", badOf("#if 1", "#else", " #elif \""), "10 0 2 1");
        due(8, "10 within skipped lines", badOf("#if 0", "#if 1", "#else", "#else"), "10 0 3 0");
        due(8, "10 not ended", badOf("#if 1", " # if 1", "x"), "10 0 1 1");
        due(8, "10 not ended, skipped", badOf("#if 0", "  #ifdef", "x"), "10 0 1 2");
        due(8, "11 not told", badOf("#include 1"), "11 0 0 9");
        due(8, "11 no such", badOf("#include 7 x"), "11 0 0 9");
        due(8, "11 a seventh within", badOf("x", "#include 0"), "11 0 1 9");
        HideSets x = with(times("#include 1\n", 13));
        file(x, 1, "a");
        x.run(0);
        due(8, "11 a 13th", bad(x), "11 0 12 9");
        due(8, "12 were begun", x.now(3), 12);
        file(x, 0, "#include 1 z");
        x.run(0);
        due(8, "2 behind include", bad(x), "2 0 0 11");
        file(x, 0, "#if 1", "#include 1");
        file(x, 1, "#endif");
        x.run(0);
        due(8, "10 not of this file", bad(x), "10 1 0 0");
    }

    private static void promise9() {
        HideSets x = new HideSets();
        due(9, "ahead of any run", tell(x, "a f(1)").expand(), 5);
        due(9, "the tape is empty then", x.count(3), 0);
        due(9, "nothing", tell(x, "").expand(), 0);
        file(x, 0, "#define a 1 2", "#define f(x) #x", "a");
        x.run(0);
        due(9, "expand", tell(x, "a f( a ) #").expand(), 4);
        due(9, "tokens", all(x), "1 2 \"a\" #");
        due(9, "now stays", nows(x), "2 1 0 0 0 0 1 0 0 0");
        due(9, "macro stays", macro(x, 0, 5), 1);
        due(9, "# is no directive", tell(x, "#define a").expand(), 4);
        due(9, "counted anew", tell(x, times("a ", 100)).expand(), 200);
        due(9, "one more", tell(x, times("a ", 101)).expand(), -2);
        due(9, "its fault", bad(x), "7 -1 -1 200");
        due(9, "none come", token(x, 0, 0), THREW);
        due(9, "more than a run may", tell(x, times("+-", 200)).expand(), 400);
        due(9, "a byte ahead of all else", tell(x, "\" a\n\"").expand(), -2);
        due(9, "at it", bad(x), "1 -1 -1 3");
        due(9, "a high byte", tell(x, "a\u00ff").expand(), -2);
        due(9, "at it, too", bad(x), "1 -1 -1 1");
        file(x, 0, "#undef a");
        due(9, "files don't matter", tell(x, "a").expand(), 2);
        x.run(0);
        due(9, "the latest run does", tell(x, "a").expand(), 1);
    }

    private static void promise10() {
        HideSets x = ran("#define a 3", "#define f(x) x*x", "#define e", "#define d defined a");
        due(10, "by macros", worth(x, "a+f(2)"), "7");
        due(10, "defined", worth(x, "defined a + defined ( f )*2 + defined(z)"), "3");
        due(10, "defined is not expanded", worth(x, "defined e"), "1");
        due(10, "defined from a body", worth(x, "d"), "8@0");
        due(10, "names that are left", worth(x, "z+f+defined"), "8@11");
        due(10, "names are 0", worth(x, "z+f+1"), "1");
        due(10, "strength", worth(x, "1||0&&0"), "1");
        due(10, "strength of bits", worth(x, "1|6^3&2"), "5");
        due(10, "compared", worth(x, "1==2<3"), "1");
        due(10, "shifted", worth(x, "1<<2+1"), "8");
        due(10, "from the left", worth(x, "100/10/5"), "2");
        due(10, "towards 0", worth(x, "-7/2*10+-7%2"), "-31");
        due(10, "ahead", worth(x, "!0+~0+-1+ +1"), "0");
        due(10, "wraps", worth(x, "9223372036854775807+1"), "-9223372036854775808");
        due(10, "least by -1", worth(x, "0x8000000000000000/-1"), "-9223372036854775808");
        due(10, "least by -1, the rest", worth(x, "0x8000000000000000%-1"), "0");
        due(10, "6 bits", worth(x, "1<<-1"), "-9223372036854775808");
        due(10, "with the sign", worth(x, "-8>>65"), "-4");
        due(10, "base 16", worth(x, "0xFf"), "255");
        due(10, "16 digits", worth(x, "0x0000000000000010"), "16");
        due(10, "17 digits", worth(x, "0x00000000000000010"), "8@0");
        due(10, "no digits", worth(x, "0x"), "8@0");
        due(10, "0X", worth(x, "1+0X1"), "8@2");
        due(10, "too large", worth(x, "9223372036854775808"), "8@0");
        due(10, "zeros ahead", worth(x, "00000000000000000000000012"), "12");
        due(10, "letters", worth(x, "1u"), "8@0");
        due(10, "a string", worth(x, "1+\"a\""), "8@2");
        due(10, "? from the right", worth(x, "1?2:0?3:4"), "2");
        due(10, "? within ?", worth(x, "1?0?3:4:5"), "4");
        due(10, "not worked out", worth(x, "1||1/0"), "1");
        due(10, "not worked out, either", worth(x, "0&&1/0"), "0");
        due(10, "not the other part", worth(x, "0?1/0:1?2:1%0"), "2");
        due(10, "division", worth(x, "4+1/0"), "9@3");
        due(10, "the rest", worth(x, "4%(1-1)"), "9@1");
        due(10, "the first division", worth(x, "1/(1/0)"), "9@4");
        due(10, "read whole first", worth(x, "1/0 1"), "8@4");
        due(10, "empty", worth(x, "  "), "8@2");
        due(10, "open", worth(x, "(1"), "8@2");
        due(10, "no colon", worth(x, "1?2"), "8@3");
        due(10, "closed once more", worth(x, "1)"), "8@1");
        due(10, "defined without a name", worth(x, "1+defined 5"), "8@10");
        due(10, "defined without a bracket", worth(x, "defined(a 1"), "8@10");
        due(10, "8 brackets", worth(x, times("(", 8) + "1" + times(")", 8)), "1");
        due(10, "9 brackets", worth(x, times("(", 9) + "1" + times(")", 9)), "8@8");
        due(10, "8 signs", worth(x, times("-", 8) + "1"), "1");
        due(10, "9 signs", worth(x, times("- ", 9) + "1"), "8@16");
        due(10, "8 parts", worth(x, times("0?1:", 8) + "5"), "5");
        due(10, "9 parts", worth(x, times("0?1:", 9) + "5"), "8@34");
        due(10, "mixed", worth(x, "(((((((-(1))))))))"), "8@8");
        due(10, "3", worth(x, "f(1"), "3@0");
        due(10, "4", worth(x, "1+f(1,2)"), "4@2");
        due(10, "a byte", worth(x, "1 \n"), "1@2");
        due(10, "the tape is empty then", x.count(3), 0);
        due(10, "now stays", nows(x), "4 0 0 0 0 0 0 0 0 0");
        tell(x, "a b").expand();
        due(10, "0 alone", worth(x, "0"), "0");
        due(10, "0 where an x was", worth(x, "0x1") + worth(x, "0"), "10");
        due(10, "tokens stay", all(x), "3 b");
        file(x, 0, "#define s(x) #x", "s(q)");
        x.run(0);
        due(10, "made tokens stay", worth(x, "s(r)") + all(x), "8@0\"q\"");
    }

    private static void promise11() {
        HideSets x = with("#include 1", "#define a(x) x##2 #x", " 7z a(b) \"s\" ==");
        file(x, 1, "n");
        x.run(0);
        due(11, "tokens", all(x), "n 7z b2 \"b\" \"s\" ==");
        int[][] want = {{0, 1, 1, 0, 0, 0, 0}, {1, 2, 0, 2, 1, 0, 1}, {0, 2, 0, 2, 6, 1, 1}, {2, 3, 0, 2, 4, 1, 1},
            {2, 3, 0, 2, 9, 0, 1}, {3, 2, 0, 2, 13, 0, 1}};
        for (int k = 0; k < want.length; k++) {
            for (int what = 0; what < 7; what++) {
                due(11, "token(" + k + ", " + what + ")", token(x, k, what), want[k][what]);
            }
        }
        due(11, "none such", token(x, 6, 0), THREW);
        due(11, "none such below", token(x, -1, 0), THREW);
        due(11, "another what", token(x, 0, 7), THREW);
        due(11, "another what below", token(x, 0, -1), THREW);
        tell(x, "q").expand();
        due(11, "file of the tape", token(x, 0, 2), -1);
        due(11, "line of the tape", token(x, 0, 3), -1);
        x.run(3);
        due(11, "stays with NONE", word(x, 0), "q");
    }

    private static void promise12() {
        HideSets x = ran("ab ~");
        due(12, "first", x.tokenAt(0, 0), 'a');
        due(12, "last", x.tokenAt(0, 1), 'b');
        due(12, "behind", x.tokenAt(0, 2), -1);
        due(12, "ahead", x.tokenAt(0, -1), -1);
        due(12, "126", x.tokenAt(1, 0), 126);
        due(12, "none such", x.tokenAt(2, 0), -1);
        due(12, "none such below", x.tokenAt(-1, 0), -1);
        file(x, 0, "other");
        due(12, "as it came", x.tokenAt(0, 1), 'b');
        due(12, "far", x.tokenAt(Integer.MAX_VALUE, Integer.MAX_VALUE), -1);
    }

    private static void promise13() {
        HideSets x = new HideSets();
        switches(x, "s t");
        x.set(1);
        file(x, 0, "#define f(x,y) x y # x", "#define g() s", "#define h ", "g() f(1,2) g()", "#undef g", "#undef s", "#define t 5");
        file(x, 1, "#undef h", "#define h a b");
        tell(x, "#include 1").edit(0, 7);
        x.run(0);
        int[][] want = {{0, -1, -1, -1, -1, 2}, {1, -1, 1, 0, 6, 0}, {1, 2, 4, 0, 0, 1}, {0, -1, -1, -1, -1, 2}, {1, -1, 2, 1, 1, 0}};
        for (int m = 0; m < want.length; m++) {
            for (int what = 0; what < 6; what++) {
                due(13, "macro(" + m + ", " + what + ")", macro(x, m, what), want[m][what]);
            }
        }
        due(13, "none such", macro(x, 5, 0), THREW);
        due(13, "none such below", macro(x, -1, 0), THREW);
        due(13, "another what", macro(x, 0, 6), THREW);
        due(13, "another what below", macro(x, 0, -1), THREW);
        file(x, 0, "");
        x.run(0);
        due(13, "a switch", macro(x, 0, 0), 1);
        due(13, "without parameters", macro(x, 0, 1), -1);
        due(13, "body 1", macro(x, 0, 2), 1);
        due(13, "no file", macro(x, 0, 3), -1);
        due(13, "counted anew", macro(x, 0, 5), 0);
        switches(x, "");
        due(13, "as the latest run left it", macro(x, 0, 0), 1);
        file(x, 0, "#define f() #");
        x.run(0);
        due(13, "not numbered with a fault", x.now(0), 0);
    }

    private static void promise14() {
        HideSets x = ran("#define abc 1", "#define _9(x)");
        due(14, "first", x.macroAt(0, 0), 'a');
        due(14, "last", x.macroAt(0, 2), 'c');
        due(14, "behind", x.macroAt(0, 3), -1);
        due(14, "ahead", x.macroAt(0, -1), -1);
        due(14, "second", x.macroAt(1, 1), '9');
        due(14, "none such", x.macroAt(2, 0), -1);
        due(14, "none such below", x.macroAt(-1, 0), -1);
        file(x, 0, "zzzzzzzzzzzzzzzzz");
        due(14, "as the run left it", x.macroAt(0, 1), 'b');
        switches(x, "sw");
        x.run(0);
        due(14, "an undefined switch", x.macroAt(0, 1), 'w');
    }

    private static void promise15() {
        HideSets x = new HideSets();
        switches(x, "s");
        file(x, 0, "#define c(x,y) x##y #x", "", "c(a,b) c(,d)", "#if 1", "#include 1", "#include 1", "#elif \"", "x", "#else", "#if 0",
                "#endif", "#endif", "#ifdef s", "#endif", "#include 2", "#");
        file(x, 1, "#ifndef G", "#define G", "#endif");
        file(x, 2, "#include 3", "y");
        file(x, 3, "#if s", "z", "#endif");
        due(15, "faultless", x.run(0), 5);
        due(15, "all", nows(x), "3 3 4 3 1 2 2 1 2 4");
        due(15, "another what", x.now(10), -1);
        due(15, "below", x.now(-1), -1);
        x.run(7);
        due(15, "stays with NONE", x.now(1), 3);
        x = ran("#if 1/0");
        due(15, "not that of a fault", x.now(9), 0);
        x = ran("#ifdef a b");
        due(15, "nor ifdef of one", x.now(9), 0);
        x = ran("#define f(x) x", times("f(", 101) + times(")", 101));
        due(15, "expansions begun", x.now(6), 100);
        x = ran("#define c(x,y) x##y", "c(-,1)");
        due(15, "begun with a fault", x.now(6), 1);
        due(15, "nothing pasted", x.now(7), 0);
    }

    private static void promise16() {
        HideSets x = new HideSets();
        file(x, 0, "#include 1", "#include 1", "a", "#", "#if 0", "b", "#elif 1", "", "#elif \"", "#endif", "#define e", "c \"");
        file(x, 1, "n");
        x.run(0);
        int[] want = {1, 1, 1, 1, 1, 0, 1, 1, 1, 1, 1, 0};
        for (int l = 0; l < want.length; l++) {
            due(16, "line " + l, x.passed(0, l), want[l]);
        }
        due(16, "twice", x.passed(1, 0), 2);
        due(16, "no such line", x.passed(0, 12), -1);
        due(16, "no such line below", x.passed(0, -1), -1);
        due(16, "no such file", x.passed(2, 0), -1);
        due(16, "no such file at all", x.passed(4, 0), -1);
        due(16, "no such file below", x.passed(-1, 0), -1);
        file(x, 1, "n", "\"");
        due(16, "not there then", x.passed(1, 1), 0);
        x.run(0);
        due(16, "an include with a fault", x.passed(0, 0), 0);
        due(16, "up to the fault", x.passed(1, 0), 1);
        due(16, "its line", x.passed(1, 1), 0);
        x.drop(1, 0);
        due(16, "by the lines now", x.passed(1, 1), -1);
    }

    private static void promise17() {
        HideSets x = new HideSets();
        switches(x, "s t");
        file(x, 0, "#ifdef s", "a", "#endif", "#include 1", "\"");
        file(x, 1, "#if s+t==2", "b", "#elif \"", "#endif", "c");
        file(x, 2, "");
        due(17, "by s", x.presence(0, 0, 1), 10);
        due(17, "always", x.presence(0, 0, 0), 15);
        due(17, "in another", x.presence(0, 1, 1), 8);
        due(17, "ahead of its fault", x.presence(0, 1, 0), 15);
        due(17, "the line of a fault", x.presence(0, 1, 2), 8);
        due(17, "never", x.presence(0, 0, 4), 0);
        due(17, "alone", x.presence(1, 1, 4), 8);
        due(17, "not of this run", x.presence(2, 0, 0), 0);
        due(17, "not told", x.presence(3, 0, 0), -1);
        due(17, "file not told", x.presence(0, 3, 0), -1);
        due(17, "no such line", x.presence(0, 0, 5), -1);
        due(17, "no such line below", x.presence(0, 0, -1), -1);
        due(17, "no lines", x.presence(0, 2, 0), -1);
        due(17, "nothing was run", nows(x), "0 0 0 0 0 0 0 0 0 0");
        x.drop(0, 0);
        due(17, "by the lines now", x.presence(0, 0, 0), 15);
        switches(x, "");
        due(17, "without switches", x.presence(0, 0, 0), 1);
    }

    private static void promise18() {
        HideSets x = new HideSets();
        switches(x, "s t u");
        file(x, 0, "#if s==1&&t==1", "a b", "#elif u", "ab", "#endif");
        due(18, "three", x.outcomes(0), 3);
        file(x, 0, "s t u");
        due(18, "all", x.outcomes(0), 8);
        file(x, 0, "x");
        due(18, "one", x.outcomes(0), 1);
        file(x, 0, "#ifdef s", "a", "#else", " a", "#endif");
        due(18, "by their bytes", x.outcomes(0), 1);
        file(x, 0, "#ifdef s", "\"", "#endif", "\"");
        due(18, "faults by line", x.outcomes(0), 2);
        file(x, 0, "#ifdef s", "#if 1/0", "#else", "#if 1 1", "#endif", "#endif");
        due(18, "faults by kind", x.outcomes(0), 2);
        file(x, 0, "#ifdef s", "x", "#endif", "#error");
        due(18, "tokens with a fault", x.outcomes(0), 2);
        due(18, "not told", x.outcomes(1), -1);
        due(18, "no such", x.outcomes(-1), -1);
        due(18, "setting stays", x.count(2), 0);
    }

    private static void promise19() {
        HideSets x = new HideSets();
        switches(x, "s t u");
        file(x, 0, "#if s==1&&t==1", "a", "#elif u", "b", "#endif");
        int[] want = {0, 0, 0, 3, 4, 4, 4, 3};
        for (int s = 0; s < 8; s++) {
            due(19, "like " + s, x.like(0, s), want[s]);
        }
        due(19, "no such setting", x.like(0, 8), -1);
        due(19, "no such setting below", x.like(0, -1), -1);
        due(19, "not told", x.like(1, 0), -1);
        due(19, "no such file", x.like(4, 0), -1);
        tell(x, "#if 1").edit(0, 0);
        due(19, "after an edit", x.like(0, 7), 0);
        switches(x, "u");
        due(19, "no such setting now", x.like(0, 2), -1);
    }

    private static void promise20() {
        HideSets x = new HideSets();
        switches(x, "s t u");
        file(x, 0, "#ifdef s", "#ifdef u", "a", "#endif", "#endif");
        due(20, "two", x.depends(0), 5);
        file(x, 0, "#ifdef t", "a", "#else", "a", "#endif");
        due(20, "none", x.depends(0), 0);
        file(x, 0, "t");
        due(20, "one", x.depends(0), 2);
        file(x, 0, "#if s+t+u==2", "\"", "#endif");
        due(20, "all, by a fault", x.depends(0), 7);
        due(20, "not told", x.depends(1), -1);
        due(20, "no such", x.depends(4), -1);
        x.image(0);
        file(x, 0, "s");
        due(20, "another file", x.depends(0), 1);
        x.restore(0);
        due(20, "restored", x.depends(0), 7);
        switches(x, "");
        due(20, "without switches", x.depends(0), 0);
    }

    private static void promise21() {
        HideSets x = new HideSets();
        due(21, "not told", x.guard(0), -1);
        due(21, "no such", x.guard(4), -1);
        due(21, "no such below", x.guard(-1), -1);
        file(x, 0, "", " # ifndef  AB_1 ", "#if 1", "#else", "#elif", "#endif", "\"", " # endif x", "  ");
        due(21, "guarded", x.guard(0), 4);
        due(21, "its name", x.guardAt(3), '1');
        String[][] not = {{""}, {"#ifndef A"}, {"x", "#ifndef A", "#endif"}, {"#ifndef A", "#endif", "x"},
            {"#ifndef A", "#else", "#endif"}, {"#ifndef A", "#elif 1", "#endif"}, {"#ifndef A x", "#endif"}, {"#ifndef", "#endif"},
            {"#ifndef 1", "#endif"}, {"#ifdef A", "#endif"}, {"#if 1", "#endif"}, {"#ifndef A", "#endif", "#ifndef A", "#endif"},
            {"#ifndef A", "#if 1", "#endif"}, {"#ifndef A(", "#endif"}, {"#ifndef " + times("A", 31), "#endif"},
            {"#", "#ifndef A", "#endif"}, {"#ifndefA", "#endif"}, {"##ifndef A", "#endif"}, {"#ifndef A", "#endif", "#endif"}};
        for (int i = 0; i < not.length; i++) {
            file(x, 1, not[i]);
            due(21, "not guarded " + i, x.guard(1), 0);
        }
        due(21, "the latest above 0 stays", x.guardAt(0), 'A');
        file(x, 1, "#ifndef " + times("B", 30), "#endif");
        due(21, "30 bytes", x.guard(1), 30);
        file(x, 2, "#include 0", "#include 0", "#include 1", "#undef AB_1", "#include 0 ");
        file(x, 0, "#ifndef AB_1", "#define AB_1", "in", "#endif");
        due(21, "spared once", x.run(2), 2);
        due(21, "begun", x.now(3), 3);
        due(21, "spared", x.now(4), 1);
        switches(x, "AB_1");
        x.set(1);
        due(21, "the file that is run is not spared", x.run(0), 0);
        due(21, "but skipped", x.now(2), 2);
        file(x, 0, "#ifndef AB_1", "#include 0", "#endif", "");
        x.set(0);
        x.run(0);
        due(21, "a seventh", bad(x), "11 0 1 9");
        file(x, 0, "#ifndef G", "#define G", "#include 0", "#endif");
        due(21, "spared within itself", x.run(0), 0);
        due(21, "not begun", x.now(3) * 10 + x.now(4), 1);
    }

    private static void promise22() {
        HideSets x = new HideSets();
        due(22, "ahead of any", x.guardAt(0), -1);
        file(x, 0, "#ifndef xy", "#endif");
        x.guard(0);
        due(22, "first", x.guardAt(0), 'x');
        due(22, "second", x.guardAt(1), 'y');
        due(22, "behind", x.guardAt(2), -1);
        due(22, "ahead", x.guardAt(-1), -1);
        x.drop(0, 0);
        due(22, "not guarded", x.guard(0), 0);
        due(22, "as it was", x.guardAt(1), 'y');
        file(x, 0, "#ifndef z", "#endif");
        x.guard(0);
        due(22, "another", x.guardAt(0), 'z');
        due(22, "shorter", x.guardAt(1), -1);
    }

    private static void promise23() {
        HideSets x = new HideSets();
        file(x, 0, "#endif", "#if", " # ifdef \"", "#else", "#endif", "#elif", "# elsex", "#else", "#else", "#endif", "#else", "#endif", "#ifndef");
        int[] want = {-1, 5, 3, 4, -1, 7, -1, 8, 9, -1, -1, -1, -1};
        for (int l = 0; l < want.length; l++) {
            due(23, "line " + l, x.nextOf(0, l), want[l]);
        }
        due(23, "no such line", x.nextOf(0, 13), -1);
        due(23, "no such line below", x.nextOf(0, -1), -1);
        due(23, "no such file", x.nextOf(1, 0), -1);
        due(23, "no such file at all", x.nextOf(9, 0), -1);
    }

    private static void promise24() {
        HideSets x = new HideSets();
        due(24, "not told", tell(x, "a").edit(0, 0), -2);
        due(24, "the tape is empty then", x.count(3), 0);
        file(x, 0, "a", "b");
        due(24, "first", tell(x, "long one").edit(0, 0), 2);
        due(24, "one more", tell(x, "c").edit(0, 2), 3);
        due(24, "an empty one", tell(x, "").edit(0, 1), 3);
        x.run(0);
        due(24, "the lines", all(x), "long one.c");
        due(24, "beyond", tell(x, "d").edit(0, 4), -2);
        due(24, "below", tell(x, "d").edit(0, -1), -2);
        due(24, "no such file", tell(x, "d").edit(4, 0), -2);
        due(24, "a 10", tell(x, "d\n").edit(0, 0), -1001);
        due(24, "a byte", tell(x, "\u0080").edit(0, 0), -1000);
        due(24, "a place beyond 400", tell(x, times("a", 430) + "\t").edit(0, 0), -1430);
        file(x, 1, times("a", 400));
        due(24, "400 and a 10", tell(x, times("b", 400)).edit(1, 0), -3);
        due(24, "399 and a 10", tell(x, times("b", 399)).edit(1, 0), 1);
        due(24, "one more has no room", tell(x, "").edit(1, 1), -3);
        due(24, "room", tell(x, times("b", 398)).edit(1, 0), 1);
        due(24, "just room", tell(x, "").edit(1, 1), 2);
        file(x, 2, times("\n", 40));
        due(24, "a 41st", tell(x, "").edit(2, 40), -3);
        due(24, "the 40th", tell(x, "x").edit(2, 39), 40);
        file(x, 3, "");
        due(24, "of no lines", tell(x, "x").edit(3, 0), 1);
        file(x, 3, "aaa", "bb", "c");
        tell(x, "zzzzzz").edit(3, 1);
        tell(x, "").edit(3, 0);
        x.run(3);
        due(24, "longer and shorter", all(x), "zzzzzz.c");
    }

    private static void promise25() {
        HideSets x = new HideSets();
        due(25, "not told", x.drop(0, 0), -1);
        file(x, 0, "aa", "b", "ccc");
        due(25, "beyond", x.drop(0, 3), -1);
        due(25, "below", x.drop(0, -1), -1);
        due(25, "no such file", x.drop(4, 0), -1);
        due(25, "middle", x.drop(0, 1), 2);
        x.run(0);
        due(25, "what is left", all(x), "aa.ccc");
        due(25, "first", x.drop(0, 0), 1);
        x.run(0);
        due(25, "what is left then", all(x), "ccc");
        due(25, "last", x.drop(0, 0), 0);
        due(25, "still told", x.lines(0), 0);
        due(25, "none left", x.drop(0, 0), -1);
    }

    private static void promise26() {
        HideSets x = new HideSets();
        due(26, "0", x.image(0), true);
        due(26, "1", x.image(1), true);
        due(26, "2", x.image(2), false);
        due(26, "-1", x.image(-1), false);
        file(x, 0, "a");
        due(26, "what is kept stays", x.restore(0), true);
        due(26, "as it was then", x.lines(0), -1);
    }

    private static void promise27() {
        HideSets x = new HideSets();
        due(27, "nothing is kept", x.restore(0), false);
        file(x, 0, "#ifndef Q", "s", "#endif");
        file(x, 1, "one");
        switches(x, "s t");
        x.set(1);
        x.image(1);
        due(27, "nor there", x.restore(0), false);
        due(27, "no such", x.restore(2) || x.restore(-1), false);
        x.run(0);
        x.guard(0);
        file(x, 0, "other");
        file(x, 2, "more");
        tell(x, "two").edit(1, 0);
        switches(x, "a b c");
        tell(x, "tape");
        due(27, "restore", x.restore(1), true);
        due(27, "files", x.count(0), 2);
        due(27, "switches", x.count(1), 2);
        due(27, "setting", x.count(2), 1);
        due(27, "the tape stays", x.count(3), 4);
        due(27, "what was told stays", all(x) + x.now(0) + (char) x.guardAt(0), "12Q");
        due(27, "lines", x.lines(0), 3);
        x.run(1);
        due(27, "as kept", all(x), "one");
        x.run(0);
        due(27, "by its switches", all(x), "1");
        due(27, "again", x.restore(1), true);
        due(27, "guard, too", x.guard(0), 1);
    }

    private static void promise28() {
        HideSets x = new HideSets();
        file(x, 3, "");
        file(x, 1, "a");
        file(x, 1, "b");
        switches(x, "p q");
        x.set(2);
        x.feed(0, 0, 0, 0, 0);
        due(28, "files", x.count(0), 2);
        due(28, "switches", x.count(1), 2);
        due(28, "setting", x.count(2), 2);
        due(28, "bytes", x.count(3), 20);
        due(28, "another what", x.count(4), -1);
        due(28, "below", x.count(-1), -1);
    }

    private static void promise29() {
        HideSets x = new HideSets();
        due(29, "not told", x.lines(0), -1);
        file(x, 0, "a", "", "b", "");
        due(29, "lines", x.lines(0), 3);
        file(x, 1, "");
        due(29, "no bytes", x.lines(1), 0);
        due(29, "no such", x.lines(4), -1);
        due(29, "no such below", x.lines(-1), -1);
        due(29, "far", x.lines(Integer.MIN_VALUE), -1);
    }

    public static void main(String[] args) {
        promise1();
        promise2();
        promise3();
        promise4();
        promise5();
        promise6();
        promise7();
        promise7Expanding();
        promise8();
        promise8Kinds();
        promise9();
        promise10();
        promise11();
        promise12();
        promise13();
        promise14();
        promise15();
        promise16();
        promise17();
        promise18();
        promise19();
        promise20();
        promise21();
        promise22();
        promise23();
        promise24();
        promise25();
        promise26();
        promise27();
        promise28();
        promise29();
        close("29 promises");
    }
}
