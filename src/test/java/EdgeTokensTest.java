/** The sentences of promise 5 about bytes, tokens and the input. */
public final class EdgeTokensTest {
    private static boolean isLetter(char b) {
        return "ABCDEFGHIJKLMNOPQRSTUVWXYZabcdefghijklmnopqrstuvwxyz_".indexOf(b) >= 0;
    }

    private static boolean isDigit(char b) {
        return "0123456789".indexOf(b) >= 0;
    }

    private static void letters(Desk desk) {
        desk.about("LETTERS are A .. Z, a .. z and 95");
        for (char b = 0; b < 256; b++) {
            if (b != '`' && b != '#') {
                desk.gives("define(`x',`y')" + b + "x", b + (isLetter(b) ? "x" : "y"));
            }
        }
    }

    private static void digits(Desk desk) {
        desk.about("DIGITS 0 .. 9");
        for (char b = 0; b < 256; b++) {
            if (b != '`' && b != '(') {
                desk.gives("define(`x',`y')x" + b, (isLetter(b) || isDigit(b) ? "x" : "y") + b);
            }
        }
    }

    private static void blanks(Desk desk) {
        desk.about("BLANKS 32, 9, 11, 12, 13; LF is 10.");
        String countForNothing = " \t\u000b\f\r\n";
        for (char b = 0; b < 256; b++) {
            if ("`#(),".indexOf(b) < 0) {
                desk.gives("len(" + b + ";)", countForNothing.indexOf(b) >= 0 ? "1" : "2");
            }
        }
        desk.fails("\tincr(x)", 36, 1);
        desk.fails("\nincr(x)", 36, 2);
    }

    private static void names(Desk desk) {
        desk.about("A NAME is a letter, and letters and digits behind it.");
        desk.gives("define(`a',`+')a _a a_ a9 9a aa Aa A a", "+ _a a_ a9 9+ aa Aa A +");
        desk.gives("define(`_',`+')_ __ _1 1_ a_", "+ __ _1 1+ a_");
        desk.gives("define(`Zz0_9',`+')Zz0_9 Zz0_ z0_9 Zz0_99", "+ Zz0_ z0_9 Zz0_99");
        desk.gives("define(`Aa',`+')define(`BB',`-')Aa BB AA", "+ - AA");
        desk.gives("define(`dvvrzrx',`+')wcjqgyvc define(`qqebcrhx',`-')zdbgais", "wcjqgyvc zdbgais");
        String longest = "n".repeat(16370);
        desk.gives("define(" + longest + ",`+')" + longest, "+");
        desk.gives("define(" + longest + ",`+')" + longest + "n", longest + "n");
    }

    private static void firstQuotes(Desk desk) {
        desk.about("at first the bytes 96 and 39");
        desk.gives("`len(a)'", "len(a)");
        desk.gives("`'", "");
        desk.gives("[len(a)]", "[1]");
        desk.gives("'len(a)'", "'1'");
    }

    private static void putBack(Desk desk) {
        desk.about("what is read goes from its beginning, what is put back comes before what is left");
        desk.gives("define(`x',`len(')x abc)", "3");
        desk.gives("define(`x',`a')define(`ab',`no')xb x`'b x", "xb ab a");
        desk.gives("define(`x',`$1')define(`ab',`yes')x(a)b", "yes");
        desk.gives("define(`x',`y')define(`y',`z')x;", "z;");
        desk.gives("define(`x',`changequote([,])[')x y]z", " yz");
        desk.gives("define(`x',`#')x len(a)\nlen(a)", "# len(a)\n1");
    }

    private static void wholeTokens(Desk desk) {
        desk.about("It reads TOKENS, each of them whole before anything is done with it.");
        String held = "len(`" + "x".repeat(16390);
        desk.fails(held, 32, 1);
        desk.fails(held + "')", 40, 1, held.length() + 1);
        Mill mill = Desk.fed(held + "')");
        desk.same("run with fuel for most of the quoted text", mill.run(held.length()), 31);
        mill = desk.fails("len(" + "n".repeat(16390) + " )", 40, 1, 4 + 16390);
        desk.same("run with fuel for most of the name", mill.run(4 + 16389), 31);
        mill = desk.fails("len(#" + "n".repeat(16390) + "\n)", 40, 2, 4 + 16392);
        desk.same("run with fuel for most of the remark", mill.run(4 + 16391), 31);
        desk.same("run with fuel for less of the remark", mill.run(4 + 16390), 31);
        desk.gives("define(`a',`b')ab abc", "ab abc");
    }

    private static void nestedQuotes(Desk desk) {
        desk.about("quotes nest");
        desk.gives("`a`b'c'", "a`b'c");
        desk.gives("``'' ```'''", "`' ``''");
        desk.gives("`a`'b`'c'd", "a`'b`'cd");
        desk.gives("`".repeat(16384) + "'".repeat(16384), "`".repeat(16383) + "'".repeat(16383));
        desk.gives("changequote(<<,>>)<<a<<b>>c<d>e>>", "a<<b>>c<d>e");
    }

    private static void closingFirst(Desk desk) {
        desk.about("within them the closing one is looked for first");
        desk.gives("changequote(\",\")\"a\"b\"c\"d", "abcd");
        desk.gives("changequote(<,<<)<a<<b", "ab");
        desk.gives("changequote(<,<<)<a<b<<c<<d", "a<b<<cd");
        desk.gives("changequote(<<,<)<<a<b", "ab");
        desk.gives("changequote(<<,<)<<a<<b<c", "a<b<c");
        desk.gives("changequote(<!,!>)<!a!>b", "ab");
    }

    private static void textBetween(Desk desk) {
        desk.about("its text is what is between");
        desk.gives("`a'", "a");
        desk.gives("a`'b", "ab");
        desk.gives("` \n#,()' ", " \n#,() ");
        desk.gives("`\0\u00ff'", "\0\u00ff");
        desk.gives("`" + "x".repeat(32766) + "'", "x".repeat(32766));
        desk.gives("changequote(<<<<,>>>>)<<<<<a>>>>>", "<a>");
        desk.gives("define(`a',`b')`a'a`a'", "aba");
    }

    private static void quoteError(Desk desk) {
        desk.about("error 32 QUOTE: the input ends before; its line is that of the opening one");
        desk.gives("`a'", "a");
        desk.fails("`", 32, 1);
        desk.fails("`a", 32, 1);
        desk.fails("``a'", 32, 1);
        desk.fails("a`b'`", 32, 1);
        desk.fails("`a\n\n", 32, 1);
        desk.fails("\n`a\n\n", 32, 2);
        desk.fails("\n\n`a\n`b\n'\n", 32, 3);
        desk.fails("`a\n'\n`\n", 32, 3);
        desk.fails("len(\n`a\n", 32, 2);
        desk.fails("len(\n\n,`)\n", 32, 3);
        desk.fails("define(`f',`changequote([,])[')\nf\n", 32, 2, 51);
        desk.fails("changequote(<<<<,>>>>)<<<<a>>>", 32, 1);
        desk.gives("changequote(<<<<,>>>>)<<<<a>>>>", "a");
        desk.fails("changequote(<<,>>)<<a>b>", 32, 1);
    }

    private static void remarks(Desk desk) {
        desk.about("a byte 35 and all up to the next LF and with it, or the input's end");
        desk.gives("#len(a)`\nlen(a)", "#len(a)`\n1");
        desk.gives("#\nlen(a)", "#\n1");
        desk.gives("#", "#");
        desk.gives("a#", "a#");
        desk.gives("#len(a)", "#len(a)");
        desk.gives("#a#\n#len(a)\n", "#a#\n#len(a)\n");
        desk.gives("len(#),(\n)len(a)", "51");
        desk.gives("len(x#,\n,y)", "4");
        desk.gives("len( #\n\n)", "3");
        desk.fails("len(#)", 33, 1);
        desk.fails("len(#)\n", 33, 2);
        desk.gives("`#'len(a)", "#1");
        desk.gives("#\0\u00ff\n\0", "#\0\u00ff\n\0");
        desk.gives("#" + "x".repeat(32766) + "`", "#" + "x".repeat(32766) + "`");
        desk.gives("#" + "x".repeat(32766) + "\n", "#" + "x".repeat(32766) + "\n");
    }

    private static void singleBytes(Desk desk) {
        desk.about("the longest name; a single byte.");
        desk.gives("define(`a',`1')define(`ab',`2')define(`abc',`3')abcd abc ab a", "abcd 3 2 1");
        desk.gives("define(`a',`+')1a 12a 1.a$a-a", "1+ 12+ 1.+$+-+");
        String longest = "n".repeat(4096);
        desk.gives("define(`n',`+')define(`a',`$1$1$1$1$1$1$1$1')a(" + longest + ")", longest.repeat(8));
        for (char b = 0; b < 256; b++) {
            if (b != '`') {
                desk.gives(String.valueOf(b), String.valueOf(b));
            }
        }
    }

    public static void main(String[] args) {
        Desk desk = new Desk("Promise 5: run");
        letters(desk);
        digits(desk);
        blanks(desk);
        names(desk);
        firstQuotes(desk);
        putBack(desk);
        wholeTokens(desk);
        nestedQuotes(desk);
        closingFirst(desk);
        textBetween(desk);
        quoteError(desk);
        remarks(desk);
        singleBytes(desk);
        desk.end();
    }
}
