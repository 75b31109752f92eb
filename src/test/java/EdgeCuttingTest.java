/** The sentences of promise 5 about numbers, and about len, index, substr, shift and dnl. */
public final class EdgeCuttingTest {
    private static void number(Desk desk) {
        desk.about("A NUMBER is 1 to 9 digits, perhaps with a - before them");
        desk.gives("incr(0)", "1");
        desk.gives("incr(-0)", "1");
        desk.gives("incr(9)", "10");
        desk.gives("incr(-9)", "-8");
        desk.gives("incr(999999998) incr(-999999999)", "999999999 -999999998");
        desk.gives("incr(000000001) decr(-000000001)", "2 -2");
        desk.gives("incr(010)", "11");
        desk.gives("substr(abc,000000001,000000001)", "b");
        desk.gives("divert(000000001)a divert(-000000000)b ", "b a ");
        desk.gives("divert(3)a divert(0)undivert(000000003)b ", "a b ");
    }

    private static void emptyNumber(Desk desk) {
        desk.about("an argument that is empty, or not there, is 0");
        desk.gives("incr() decr() incr(,5) incr(`')", "1 -1 1 1");
        desk.gives("substr(abc) substr(abc,) substr(abc,,2)", "abc abc ab");
        desk.gives("[substr(abc,1,)]", "[]");
        desk.gives("divert(1)a`'divert()b`'divert(2)c`'divert`'d", "bdac");
        desk.gives("divert(1)a`'divert`'undivert(,)b", "ba");
    }

    private static void numberError(Desk desk) {
        desk.about("anything else: error 36 NUMBER");
        String[] others = {"x", "-", "--1", "+1", "1 ", "1-", "-1-", "1.0", "0x1", "1e1", "1a", "1,", " ", "- 1", "1\n",
            "/", ":", "1/", "1:", "-/", "\u00b2", "1000000000", "0000000001", "-1000000000", "-0000000001", "12345678901",
            "99999999999999999999"};
        for (String other : others) {
            int line = other.endsWith("\n") ? 2 : 1;
            desk.fails("incr(`" + other + "')", 36, line);
            desk.fails("decr(`" + other + "')", 36, line);
            desk.fails("substr(`abc',`" + other + "')", 36, line);
            desk.fails("substr(`abc',1,`" + other + "')", 36, line);
            desk.fails("divert(`" + other + "')", 36, line);
            desk.fails("undivert(`" + other + "')", 36, line);
            desk.fails("undivert(1,`" + other + "')", 36, line);
        }
        desk.fails("incr(1 )", 36, 1);
        desk.fails("a\nincr(x)\n", 36, 2, 9);
    }

    private static void oneMoreOrLess(Desk desk) {
        desk.about("* incr, * decr: one more or less.");
        desk.gives("incr(-1) incr(0) incr(1) incr(9) incr(99) incr(-10) incr(-100)", "0 1 2 10 100 -9 -99");
        desk.gives("decr(1) decr(0) decr(-1) decr(10) decr(100) decr(-9) decr(-99)", "0 -1 -2 9 99 -10 -100");
        desk.gives("incr(999999999) decr(-999999999)", "1000000000 -1000000000");
        desk.fails("incr(incr(999999999))", 36, 1, 31);
    }

    private static void len(Desk desk) {
        desk.about("* len: how many bytes.");
        desk.gives("len() len(`') len(a) len(`a`'') len(`\n ') len(\u0000\u00ff)", "0 0 1 3 2 2");
        desk.gives("len(" + "x".repeat(9) + ") len(" + "x".repeat(10) + ") len(" + "x".repeat(16381) + ")", "9 10 16381");
    }

    private static void index(Desk desk) {
        desk.about("* index: the first place, from 0 on, of the second argument in the first one (0 of one without bytes), or -1.");
        desk.gives("index(abcab,a) index(abcab,b) index(abcab,ab) index(abcab,cab) index(abc,abc)", "0 1 0 2 0");
        desk.gives("index(abc,c) index(abc,d) index(abc,abcd) index(abc,bcd) index(abc,ac) index(abc,C)", "2 -1 -1 -1 -1 -1");
        desk.gives("index(abc,) index(abc) index() index(,) index(,a) index(`',`')", "0 0 0 0 -1 0");
        desk.gives("index(aab,ab) index(aaab,aab) index(abababc,ababc) index(abcabcabd,abcabd) index(aabaaab,aaab)",
                "1 1 2 3 3");
        desk.gives("index(aabaaabaaac,aabaaac) index(abacabab,abab) index(aaaaab,aab) index(ababa,bab) index(aabab,abb)",
                "4 4 3 1 -1");
        desk.gives("index(abbac,abac) index(aabbaab,aaba) index(abcabdabcabc,abcabc)", "-1 -1 6");
        everyPlace(desk);
        String half = "a".repeat(8189);
        desk.gives("index(" + half + "," + half + ")", "0");
        desk.gives("index(" + half + "," + "a".repeat(8188) + "b)", "-1");
        desk.gives("index(" + "a".repeat(16377) + "b,b)", "16377");
        desk.gives("index(" + "a".repeat(12000) + "b," + "a".repeat(4000) + "b)", "8000");
    }

    /** All short rows of two bytes, each sought in all longer ones. */
    private static void everyPlace(Desk desk) {
        for (int whole = 0; whole < 128; whole++) {
            StringBuilder text = new StringBuilder();
            StringBuilder due = new StringBuilder();
            for (int n = 1; n <= 4; n++) {
                for (int part = 0; part < 1 << n; part++) {
                    String sought = row(part, n);
                    text.append("index(").append(row(whole, 7)).append(",").append(sought).append(") ");
                    due.append(row(whole, 7).indexOf(sought)).append(" ");
                }
            }
            desk.gives(text.toString(), due.toString());
        }
    }

    private static String row(int bits, int n) {
        StringBuilder row = new StringBuilder();
        for (int k = 0; k < n; k++) {
            row.append((bits >> k & 1) == 0 ? 'a' : 'b');
        }
        return row.toString();
    }

    private static void substr(Desk desk) {
        desk.about("* substr: of the first argument what is from the place that the second one tells (a number, from 0 on)"
                + " on, the third one (a number; all, if it is not there) being how many at most");
        desk.gives("substr(abc,0) substr(abc,1) substr(abc,2)", "abc bc c");
        desk.gives("substr(abc,0,1) substr(abc,1,1) substr(abc,2,1)", "a b c");
        desk.gives("substr(abc,0,3) substr(abc,0,4) substr(abc,1,2) substr(abc,1,3) substr(abc,2,2)", "abc abc bc bc c");
        desk.gives("substr(abc,0,2) substr(abc,-0,1) substr(abc,1,999999999) substr(abc,,2)", "ab a bc ab");
        desk.gives("[substr(abc,0,0)][substr(abc,1,0)][substr(abc,1,)]", "[][][]");
        desk.gives("define(`b',`+')substr(abc,1,1)", "+");
        desk.gives("substr(" + "x".repeat(16000) + "yz,16000)", "yz");
    }

    private static void substrOutside(Desk desk) {
        desk.about("nothing, if it begins outside, or there are to be less than none.");
        desk.gives("[substr(abc,3)][substr(abc,4)][substr(abc,999999999)]", "[][][]");
        desk.gives("[substr(abc,-1)][substr(abc,-1,2)][substr(abc,-3,9)][substr(abc,-999999999)]", "[][][][]");
        desk.gives("[substr(abc,3,1)][substr(abc,999999999,999999999)]", "[][]");
        desk.gives("[substr(abc,0,-1)][substr(abc,2,-2)][substr(abc,1,-999999999)]", "[][][]");
        desk.gives("[substr()][substr(,0)][substr(,1)][substr(,-1,-1)]", "[][][][]");
    }

    private static void shift(Desk desk) {
        desk.about("* shift: all arguments but the first one, in quotes, with commas.");
        desk.gives("[shift()][shift(a)][shift(a,b)][shift(a,b,c)]", "[][][b][b,c]");
        desk.gives("[shift(,)][shift(,,)][shift(,,,)]", "[][,][,,]");
        String count = "define(`f',`$#')";
        desk.gives(count + "f(shift()) f(shift(a)) f(shift(a,)) f(shift(a,b)) f(shift(a,`b,c')) f(shift(a,b,c))", "1 1 1 1 1 2");
        desk.gives("define(`b',`+')shift(a,`b') shift(a,b)", "b +");
        desk.gives("len(shift(a, b)) len(shift(a,` b'))", "1 2");
        desk.gives("changequote([[,]])[[shift(`a')]] shift(a,b) shift(a,[[shift]],`)", "shift(`a') b shift,`");
    }

    private static void dnl(Desk desk) {
        desk.about("dnl: what is left of the input up to the next LF and with it goes.");
        desk.gives("a`'dnl b\nc", "ac");
        desk.gives("dnl\nc", "c");
        desk.gives("dnl\n\nc", "\nc");
        desk.gives("dnl", "");
        desk.gives("a dnl b", "a ");
        desk.gives("dnl `\nc", "c");
        desk.gives("dnl #(\nc", "c");
        desk.gives("dnl \0\u00ff\u0001\nc", "c");
        desk.gives("dnl(a\nb)c\nd", "d");
        desk.gives("dnl()c\nd", "d");
        desk.gives("define(`f',`1`'dnl 2\n3')f 4\n", "13 4\n");
        desk.gives("define(`f',`1`'dnl')f 4\n5", "15");
        desk.gives("len(a`'dnl b)\nc)", "2");
        desk.gives("define(`dnlx',`+')dnlx\nxdnl\n", "+\nxdnl\n");
    }

    public static void main(String[] args) {
        Desk desk = new Desk("Promise 5: run");
        number(desk);
        emptyNumber(desk);
        numberError(desk);
        oneMoreOrLess(desk);
        len(desk);
        index(desk);
        substr(desk);
        substrOutside(desk);
        shift(desk);
        dnl(desk);
        desk.end();
    }
}
