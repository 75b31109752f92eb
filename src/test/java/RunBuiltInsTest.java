/** Promise 5: the built-in macros but for eval, and the errors 35 and 36. */
public final class RunBuiltInsTest {
    private static void defining(Desk desk) {
        desk.gives("define(`a')[a]", "[]");
        desk.gives("define(`a',`1',`2')a", "1");
        desk.gives("define(`a',`1')define(`a',`2')a popdef(`a')a", "2 a");
        desk.gives("pushdef(`a',`1')pushdef(`a',`2')define(`a',`3')a popdef(`a')a popdef(`a')a popdef(`a')a", "3 1 a a");
        desk.gives("pushdef(`a',`1')pushdef(`a',`2')undefine(`a')a", "a");
        desk.gives("define(`a',`1')define(`b',`2')define(`c',`3')undefine(`a',`x',,`c')a b c", "a 2 c");
        desk.gives("pushdef(`a',`1')pushdef(`a',`2')pushdef(`a',`3')popdef(`a',`a')a", "1");
        desk.gives("define(`len',`x')len(y) popdef(`len')len(y)", "x len(y)");
        desk.gives("undefine(`define')define(`a',`b')", "define(a,b)");
        desk.gives("popdef(`popdef')popdef(`len')", "popdef(len)");
        desk.gives("define(`a',`b')define(`b',`c')a", "c");
        desk.gives("define(`define',`$2')define(`a',`b')", "b");
        String[] noNames = {"define()", "define(1,2)", "pushdef()", "pushdef(`',`a')", "define(`a b',`c')",
            "define(`a ',`c')", "define(`1a')", "define(`a-')", "pushdef(`\u00e4')", "define(`$a')"};
        for (String text : noNames) {
            desk.fails(text, 35, 1);
        }
        desk.fails("define(`a',`b')define(a,`c')define(c`'1`'.,2)", 35, 1, 46);
    }

    private static void choosing(Desk desk) {
        desk.gives("ifdef(`a',`y',`n') define(`a')ifdef(`a',`y',`n') ifdef(`len',`y',`n') ifdef(`dnl',`y')", "n y y y");
        desk.gives("ifdef(`a',`y')ifdef(`len')ifdef()ifdef(`',`y',`n') ifdef(`1',`y',`n',`m')", "n n");
        desk.gives("undefine(`len')ifdef(`len',`y',`n')", "n");
        desk.gives("define(`b',`c')ifdef(`b',`b b',`n')", "c c");
        desk.gives("ifelse(a,a,`y') ifelse(a,b,`y') ifelse(a,b,`y',`n') ifelse(a,b,`y',`n',`m')", "y  n n");
        desk.gives("ifelse()ifelse(a)ifelse(a,a)ifelse(,)ifelse(,,`e')", "e");
        desk.gives("ifelse(a,b,1,c,c,2)ifelse(a,b,1,c,d,2)ifelse(a,b,1,c,d,2,3)ifelse(a,b,1,c,d,2,3,4)", "233");
        desk.gives("ifelse(a,b,1,c,d,2,e,e,3,4)ifelse(a,b,1,c,d,2,e,f,3,4)ifelse(a,b,1,c,d,2,e,f,3)", "34");
        desk.gives("ifelse(ab,abc,1,abc,ab,2,3)ifelse(`',,1)ifelse(abc,abd,1,2)", "312");
        desk.gives("ifelse(a,a,`len(`xyz')',`incr(`x')')", "3");
    }

    private static void counting(Desk desk) {
        desk.gives("incr()incr(0) incr(-1) incr(9) incr(-10) incr(007) incr(-0) incr(1,x)", "11 0 10 -9 8 1 2");
        desk.gives("decr() decr(0) decr(1) decr(-1) decr(10) decr(999999999) decr(-999999999)",
                "-1 -1 0 -2 9 999999998 -1000000000");
        desk.gives("incr(999999999)", "1000000000");
        desk.gives("incr( 4)incr(`'4)", "55");
        desk.gives("len() len(a) len(`a,b') len(`a`b'c') len(a,bcd) len(`\n ')", "0 1 3 5 1 2");
        String[] noNumbers = {"incr(x)", "incr(-)", "decr(--1)", "incr(+1)", "incr(1 )", "incr(`' 1)", "incr(1-)",
            "incr(1234567890)", "decr(-1234567890)", "incr(0000000001)", "incr(1.)", "decr(`1\n')", "incr(1:)",
            "incr(1/)", "divert(x)", "divert(10)", "divert(999999999)", "divert(1234567890)", "undivert(x)",
            "undivert(1,2,y)", "undivert(-)", "substr(abc,x)", "substr(abc,1,x)", "substr(abc,9,x)",
            "substr(abc,`1 ',2)", "substr(,,-)", "divert(1 )"};
        for (String text : noNumbers) {
            desk.fails(text, 36, text.contains("\n") ? 2 : 1);
        }
    }

    private static void cutting(Desk desk) {
        desk.gives("index(`abcabc',`b') index(`abcabc',`ca') index(abc,abc) index(abc,abcd) index(abc,x)", "1 2 0 -1 -1");
        desk.gives("index(abc,) index(abc) index() index(,a) index(`',`') index(abc,c) index(ab,b,c)",
                "0 0 0 -1 0 2 1");
        desk.gives("index(`aabaabaaab',`aaab') index(`abababac',`ababac') index(`aaaa',`aab')", "6 2 -1");
        desk.gives("index(`aaaaaaab',`aaab') index(`ababab',`bab') index(`abcabd',`abd') index(`aaa',`a')", "4 1 3 0");
        desk.gives("substr(abc,1) substr(abc) substr(abc,0) substr(abc,2) substr(abc,3) substr(abc,4)", "bc abc abc c  ");
        desk.gives("substr(abcde,1,2) substr(abcde,1,0) substr(abcde,1,) substr(abcde,1,99) substr(abcde,,2)",
                "bc   bcde ab");
        desk.gives("[substr(abc,-1)][substr(abc,-1,9)][substr(abc,0,-1)][substr(abc,999999999,999999999)]", "[][][][]");
        desk.gives("substr(abcdef,1,999999999) substr(abcdef,-0,1,x) substr(`a,b',1,1)substr()", "bcdef a ,");
        desk.gives("define(`b',`<>')substr(abc,1,1)", "<>");
        desk.gives("shift()shift(a)shift(a,b)shift(a, b ,`c,d')", "bb ,c,d");
        desk.gives("define(`f',`$#:$1')f(shift(x,`a,b',c)) f(shift(x)) f(shift(x,))", "2:a,b 1: 1:");
        desk.gives("define(`q',`z')shift(a,`q') shift(a,q)", "q z");
        desk.gives("changequote(<<,>>)shift(a,b,<<c,d>>)<<shift(a,`b')>>", "b,c,dshift(a,`b')");
    }

    private static void lines(Desk desk) {
        desk.gives("a dnl b\nc", "a c");
        desk.gives("dnl", "");
        desk.gives("dnl\n\nx", "\nx");
        desk.gives("dnl(a,b) c\nx", "x");
        desk.gives("dnl `\n'x", "'x");
        desk.gives("define(`f',`1dnl 2\n3')f 4", "13 4");
        desk.gives("define(`f',`dnl')f 4\n5", "5");
        desk.fails("dnl(a\nb", 33, 2);
    }

    private static void diverting(Desk desk) {
        desk.gives("a divert(2)b divert(1)c divert(0)d ", "a d c b ");
        desk.gives("divert(9)x divert(1)y divert`'z ", "z y x ");
        desk.gives("divert(9)x divert()y divert(,1)z ", "y z x ");
        desk.gives("divert(-1)x divert(-999999999)y divert(-0)z", "z");
        desk.gives("divert(1)a divert(2)b divert(0)c undivert(2)d ", "c b d a ");
        desk.gives("divert(1)a divert(2)b divert(3)c divert`'undivert(3,1)d ", "c a d b ");
        desk.gives("divert(1)a divert(2)b divert(3)c divert`'undivert`'d ", "a b c d ");
        desk.gives("divert(1)a divert(2)b divert(3)c divert`'undivert()d ", "a b c d ");
        desk.gives("divert(1)a divert(2)b divert(3)c divert`'undivert(,)d undivert(0,-1,10,2)", "d b a c ");
        desk.gives("divert(1)a divert(2)b undivert(1)undivert(2)c divert`'d ", "d b a c ");
        desk.gives("divert(1)a divert(2)b divert(1)undivert`'c divert`'d ", "d a b c ");
        desk.gives("divert(1)a divert(2)b divert(-1)undivert(2)c divert`'d ", "d a ");
        desk.gives("divert(1)a divert(2)b divert(-1)undivert`'divert`'d divert(1)e ", "d e ");
        desk.gives("divert(1)a divert`'undivert(1,1)undivert(1)b divert(1)c ", "a b c ");
        desk.gives("divert(1)len(`a'divert(2)b)c", "2c");
        desk.gives("divert(3)a divert(0)len(undivert(3)b)", "a 1");
        desk.gives("divert(4)x divert(-1)y", "x ");
        desk.gives("a`'divert(-1)b", "a");
    }

    public static void main(String[] args) {
        Desk desk = new Desk();
        defining(desk);
        choosing(desk);
        counting(desk);
        cutting(desk);
        lines(desk);
        diverting(desk);
        desk.end();
    }
}
