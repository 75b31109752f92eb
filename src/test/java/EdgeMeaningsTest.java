/** The sentences of promise 5 about piles of meanings, and about ifdef and ifelse. */
public final class EdgeMeaningsTest {
    /** A run without an error, what comes out, and how many meanings and bytes of these there are in its end. */
    private static void leaves(Desk desk, String text, String out, int meanings, int bytes) {
        Mill mill = desk.gives(text, out);
        desk.same("told(2) of " + text, mill.told(2), meanings);
        desk.same("told(3) of " + text, mill.told(3), bytes);
    }

    private static void define(Desk desk) {
        desk.about("* define: the first argument gets the second one as its top meaning (the only one, if it had none)");
        leaves(desk, "define(`a',`12')a", "12", 1, 3);
        leaves(desk, "define(`a',`12')define(`a',`3')a", "3", 1, 2);
        leaves(desk, "define(`a',`12')define(`a',`3')popdef(`a')a", "a", 0, 0);
        leaves(desk, "pushdef(`a',`1')pushdef(`a',`2')define(`a',`34')a", "34", 2, 5);
        leaves(desk, "pushdef(`a',`1')pushdef(`a',`2')define(`a',`34')popdef(`a')a", "1", 1, 2);
        leaves(desk, "define(`len',`+')len(a)", "+", 1, 4);
        leaves(desk, "define(`len',`+')popdef(`len')len(a)", "len(a)", 0, 0);
        leaves(desk, "define(`a',`1')undefine(`a')define(`a',`2')popdef(`a')a", "a", 0, 0);
        leaves(desk, "define(`a')[a]define(`b',)[b]", "[][]", 2, 2);
        leaves(desk, "define(`define',`$2')define(`a',`b')", "b", 1, 8);
    }

    private static void pushdef(Desk desk) {
        desk.about("* pushdef: on top of those it has.");
        leaves(desk, "pushdef(`a',`1')a", "1", 1, 2);
        leaves(desk, "pushdef(`a',`1')pushdef(`a',`23')a", "23", 2, 5);
        leaves(desk, "define(`a',`1')pushdef(`a',`23')a popdef(`a')a popdef(`a')a", "23 1 a", 0, 0);
        leaves(desk, "pushdef(`len',`+')len(a)", "+", 1, 4);
        leaves(desk, "pushdef(`len',`+')popdef(`len')len(a)", "1", 0, 0);
        leaves(desk, "pushdef(`a',`1')pushdef(`a',`1')popdef(`a')a", "1", 1, 2);
        leaves(desk, "pushdef(`pushdef',`+')pushdef(`a')popdef(`pushdef')pushdef(`b')[b]", "+[]", 1, 1);
    }

    private static void undefine(Desk desk) {
        desk.about("* undefine: each argument loses all meanings");
        leaves(desk, "pushdef(`a',`1')pushdef(`a',`2')undefine(`a')a", "a", 0, 0);
        leaves(desk, "define(`a',`1')define(`b',`2')define(`c',`3')undefine(`a',`c')a b c", "a 2 c", 1, 2);
        leaves(desk, "define(`a',`1')undefine(`a',`a')a", "a", 0, 0);
        leaves(desk, "undefine(`x')undefine(`x',)undefine()undefine(`1 (')undefine(`')a", "a", 0, 0);
        leaves(desk, "define(`a',`1')undefine(`x',,`a')a", "a", 0, 0);
        leaves(desk, "pushdef(`len',`1')undefine(`len')len(a)", "len(a)", 0, 0);
        leaves(desk, "undefine(`undefine')undefine(`len')len(a)", "undefine(len)1", 0, 0);
        leaves(desk, "undefine(`dnl')dnl x\ny", "dnl x\ny", 0, 0);
        leaves(desk, "define(`a',`1')define(`ab',`2')undefine(`a')a ab", "a 2", 1, 3);
        leaves(desk, "define(`Aa',`1')define(`BB',`2')undefine(`Aa')Aa BB", "Aa 2", 1, 3);
        leaves(desk, "define(`Aa',`1')define(`BB',`2')undefine(`BB')Aa BB", "1 BB", 1, 3);
    }

    private static void popdef(Desk desk) {
        desk.about("* popdef: each its top one.");
        leaves(desk, "pushdef(`a',`1')pushdef(`a',`2')popdef(`a')a", "1", 1, 2);
        leaves(desk, "pushdef(`a',`1')pushdef(`a',`2')popdef(`a')popdef(`a')a", "a", 0, 0);
        leaves(desk, "pushdef(`a',`1')pushdef(`a',`2')popdef(`a')popdef(`a')popdef(`a')a", "a", 0, 0);
        leaves(desk, "pushdef(`a',`1')pushdef(`a',`2')pushdef(`a',`3')popdef(`a',`a')a", "1", 1, 2);
        leaves(desk, "define(`a',`1')define(`b',`2')popdef(`a',`b')a b", "a b", 0, 0);
        leaves(desk, "popdef(`x')popdef(`x',)popdef()popdef(`1 (')popdef(`')a", "a", 0, 0);
        leaves(desk, "define(`a',`1')popdef(`x',,`a')a", "a", 0, 0);
        leaves(desk, "popdef(`len')len(a)popdef(`len')", "len(a)", 0, 0);
        leaves(desk, "pushdef(`Aa',`1')pushdef(`BB',`2')pushdef(`Aa',`3')popdef(`BB',`Aa')Aa BB", "1 BB", 1, 3);
        leaves(desk, "popdef(`popdef')popdef(`len')len(a)", "popdef(len)1", 0, 0);
    }

    private static void nameError(Desk desk) {
        desk.about("The first argument of define and pushdef is a name: error 35 NAME.");
        String[] names = {"a", "Z", "_", "a1", "_9", "aB_0", "z".repeat(5000)};
        String[] others = {"", "1", "1a", "a b", "a ", " a", "a-", "-a", "$a", "a.", "\u00e4", "a\u00e4", "a\n", "(", ",",
            "a,b", "#", "@", "[", "a[", "a{", "a/", "a:", "z".repeat(5000) + "-"};
        for (String macro : new String[] {"define", "pushdef"}) {
            for (String name : names) {
                Mill mill = desk.gives(macro + "(`" + name + "',`+')", "");
                desk.same("told(3) of " + macro + " of " + name, mill.told(3), name.length() + 1);
            }
            for (String other : others) {
                Mill mill = desk.fails(macro + "(`" + other + "',`+')", 35, other.endsWith("\n") ? 2 : 1);
                desk.same("told(2) of " + macro + " of " + other, mill.told(2), 0);
            }
            desk.fails(macro + "()", 35, 1);
            desk.fails(macro + "(,a)", 35, 1);
            desk.fails("\n" + macro + "( 1)\n", 35, 2, macro.length() + 5);
        }
        desk.gives("define( a,+)a", "+");
        desk.fails("define(`a',`1')define(a,`2')", 35, 1, 29);
    }

    private static void ifdef(Desk desk) {
        desk.about("* ifdef: the second argument if the first one is a macro, else the third one.");
        desk.gives("define(`a')ifdef(`a',`y',`n')", "y");
        desk.gives("ifdef(`a',`y',`n')", "n");
        desk.gives("ifdef(`len',`y',`n')", "y");
        desk.gives("ifdef(`dnl',`y',`n')", "y");
        desk.gives("ifdef(`',`y',`n')", "n");
        desk.gives("ifdef(`len ',`y',`n')", "n");
        desk.gives("ifdef(`le',`y',`n')", "n");
        desk.gives("define(`a')undefine(`a')ifdef(`a',`y',`n')", "n");
        desk.gives("pushdef(`a')pushdef(`a')popdef(`a')ifdef(`a',`y',`n')", "y");
        desk.gives("undefine(`len')ifdef(`len',`y',`n')", "n");
        desk.gives("[ifdef(`a',`y')][ifdef(`len')][ifdef()]", "[][][]");
        desk.gives("define(`b',`+')ifdef(`b',`b',`n')", "+");
    }

    private static void same(Desk desk) {
        desk.about("c if a and b are the same");
        desk.gives("ifelse(a,a,1)", "1");
        desk.gives("ifelse(,,1)", "1");
        desk.gives("ifelse(`a,b',`a,b',1,2)", "1");
        desk.gives("[ifelse(a,a)]", "[]");
        desk.gives("[ifelse(a,a,)]", "[]");
        desk.gives("ifelse(a,a,1,2,3,4,5,6,7)", "1");
        desk.gives("ifelse(a,A,1,2)", "2");
        desk.gives("ifelse(ab,a,1,2)", "2");
        desk.gives("ifelse(a,ab,1,2)", "2");
        desk.gives("ifelse(ab,ac,1,2)", "2");
        desk.gives("ifelse(,a,1,2)", "2");
        desk.gives("ifelse(1,01,1,2)", "2");
        desk.gives("ifelse(a ,a,1,2)", "2");
    }

    private static void oneOrTwoMore(Desk desk) {
        desk.about("else, of just one or two more, the first one of them");
        desk.gives("ifelse(a,b,1,2)", "2");
        desk.gives("ifelse(a,b,1,2,3)", "2");
        desk.gives("[ifelse(a,b,1,)]", "[]");
        desk.gives("[ifelse(a,b,1,,3)]", "[]");
        desk.gives("ifelse(a,b,1,2,2)", "2");
    }

    private static void threeOrMore(Desk desk) {
        desk.about("of three or more, as if these alone were there");
        desk.gives("ifelse(a,b,1,c,c,2)", "2");
        desk.gives("[ifelse(a,b,1,c,d,2)]", "[]");
        desk.gives("ifelse(a,b,1,c,d,2,3)", "3");
        desk.gives("ifelse(a,b,1,c,d,2,3,4)", "3");
        desk.gives("ifelse(a,b,1,c,d,2,e,e,3)", "3");
        desk.gives("[ifelse(a,b,1,c,d,2,e,f,3)]", "[]");
        desk.gives("ifelse(a,b,1,c,d,2,e,f,3,4)", "4");
        desk.gives("ifelse(a,b,1,b,a,2,a,a,3,4)", "3");
        desk.gives("ifelse(" + "a,b,1,".repeat(2000) + "z)", "z");
    }

    private static void noneMore(Desk desk) {
        desk.about("of none more, or with less than three in all, nothing");
        desk.gives("[ifelse(a,b,1)]", "[]");
        desk.gives("[ifelse()]", "[]");
        desk.gives("[ifelse(a)]", "[]");
        desk.gives("[ifelse(a,a)]", "[]");
        desk.gives("[ifelse(a,b)]", "[]");
        desk.gives("[ifelse(,)]", "[]");
    }

    public static void main(String[] args) {
        Desk desk = new Desk("Promise 5: run");
        define(desk);
        pushdef(desk);
        undefine(desk);
        popdef(desk);
        nameError(desk);
        ifdef(desk);
        same(desk);
        oneOrTwoMore(desk);
        threeOrMore(desk);
        noneMore(desk);
        desk.end();
    }
}
