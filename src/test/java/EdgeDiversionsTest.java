/** The sentences of promise 5 about diversions. */
public final class EdgeDiversionsTest {
    private static void current(Desk desk) {
        desk.about("DIVERSIONS 0 (what comes out) to 9, and the CURRENT one, at first 0 (or none).");
        desk.gives("a", "a");
        desk.gives("a`'divert(1)b`'divert(0)c", "acb");
        for (int i = 1; i <= 9; i++) {
            desk.gives("divert(" + i + ")a`'divert(0)b`'divert(" + i + ")c", "bac");
        }
    }

    private static void divert(Desk desk) {
        desk.about("divert: the current diversion is that of a number, 0 without one");
        desk.gives("divert(1)a`'divert`'b", "ba");
        desk.gives("divert(1)a`'divert()b", "ba");
        desk.gives("divert(1)a`'divert(0)b", "ba");
        desk.gives("divert(9)a`'divert(8)b`'divert(-0)c", "cba");
        desk.gives("divert(1)a`'divert(1)b", "ab");
        desk.gives("divert(1)len(divert(2)a)divert(3)b", "1b");
    }

    private static void below(Desk desk) {
        desk.about("none, if it is below 0");
        desk.gives("a`'divert(-1)b", "a");
        desk.gives("divert(-1)a`'divert(0)b", "b");
        desk.gives("divert(-2)a`'divert(-9)b`'divert(-999999999)c", "");
        desk.gives("divert(1)a`'divert(-1)b`'divert(1)c", "ac");
        desk.gives("divert(-1)define(`f',`+')f`'divert`'f", "+");
        desk.gives("divert(-1)" + "x".repeat(32000) + "`'divert(0)len(a)", "1");
    }

    private static void above(Desk desk) {
        desk.about("error 36 NUMBER above 9");
        desk.gives("divert(9)a", "a");
        desk.fails("divert(10)", 36, 1);
        desk.fails("divert(11)", 36, 1);
        desk.fails("divert(999999999)", 36, 1);
        desk.fails("divert(1000000000)", 36, 1);
        desk.fails("a\ndivert(10)\n", 36, 2, 12);
    }

    private static void oneAfterTheOther(Desk desk) {
        desk.about("undivert: the diversions of its arguments, one after the other (NUMBERS 1 to 9, other NUMBERS count for"
                + " nothing");
        String three = "divert(1)a`'divert(2)b`'divert(9)c`'divert`'";
        desk.gives(three + "undivert(1)-", "a-bc");
        desk.gives(three + "undivert(9)-", "c-ab");
        desk.gives(three + "undivert(9,1)-", "ca-b");
        desk.gives(three + "undivert(9,2,1)-", "cba-");
        desk.gives(three + "undivert(2,2)-undivert(2)-", "b--ac");
        desk.gives(three + "undivert(0)-", "-abc");
        desk.gives(three + "undivert(10)-", "-abc");
        desk.gives(three + "undivert(-1)-", "-abc");
        desk.gives(three + "undivert(-2,11,999999999,-999999999)-", "-abc");
        desk.gives(three + "undivert(0,2,10)-", "b-ac");
        desk.gives(three + "undivert(,)-", "-abc");
        desk.gives(three + "undivert(,2)-", "b-ac");
        desk.gives(three + "undivert(5)-", "-abc");
        desk.fails(three + "undivert(1,x)", 36, 1);
        desk.fails(three + "undivert(1000000000)", 36, 1);
    }

    private static void allInOrder(Desk desk) {
        desk.about("all in order, without arguments or with a single empty one");
        StringBuilder nine = new StringBuilder();
        for (int i = 9; i >= 1; i--) {
            nine.append("divert(").append(i).append(")").append(i).append("`'");
        }
        desk.gives(nine + "divert`'a`'undivert`'b", "a123456789b");
        desk.gives(nine + "divert`'a`'undivert()b", "a123456789b");
        desk.gives(nine + "divert`'a`'undivert( )b", "a123456789b");
        desk.gives(nine + "divert`'a`'undivert(`')b", "a123456789b");
        desk.gives(nine + "divert`'a`'undivert(,)b", "ab123456789");
        desk.gives(nine + "divert(5)a`'undivert`'b", "5a12346789b");
    }

    private static void behindTheCurrent(Desk desk) {
        desk.about("come behind the current one (or nowhere, if there is none), but the current one itself");
        desk.gives("divert(1)a`'divert(2)b`'undivert(1)c`'divert(0)-", "-bac");
        desk.gives("divert(2)a`'divert(1)b`'undivert(2)c`'divert(0)-", "-bac");
        desk.gives("divert(1)a`'undivert(1)b", "ab");
        desk.gives("divert(1)a`'divert(2)b`'undivert(2,1,2)c", "bac");
        desk.gives("divert(1)a`'undivert`'b", "ab");
        desk.gives("divert(1)a`'divert(2)b`'divert(-1)undivert(1)c", "b");
        desk.gives("divert(1)a`'divert(2)b`'divert(-1)undivert`'divert(1)c", "c");
        desk.gives("divert(1)a`'divert(2)b`'divert(-1)undivert(2,5)divert(0)-", "-a");
        desk.gives("divert(1)a`'divert(0)len(undivert(1)bc)-", "a2-");
        desk.gives("a`'divert(1)b`'undivert(0)c", "abc");
        desk.gives("a`'divert(1)b`'undivert`'c", "abc");
        desk.gives("a`'divert(-1)undivert(0)b", "a");
    }

    private static void areEmpty(Desk desk) {
        desk.about("and are empty");
        desk.gives("divert(1)a`'divert`'undivert(1)undivert(1)-", "a-");
        desk.gives("divert(1)a`'divert`'undivert(1)-divert(1)b", "a-b");
        desk.gives("divert(1)a`'divert(2)undivert(1)divert(1)undivert(2)b`'divert`'-", "-ab");
        desk.gives("divert(1)a`'divert(-1)undivert(1)divert(1)b", "b");
        desk.gives("undivert`'undivert(1)-", "-");
    }

    private static void inTheEnd(Desk desk) {
        desk.about("At the input's end the diversions 1 to 9 come behind diversion 0.");
        desk.gives("divert(9)i`'divert(5)e`'divert(1)a`'divert(0)-", "-aei");
        desk.gives("divert(9)i`'divert(5)e`'divert(1)a", "aei");
        desk.gives("divert(2)b`'divert(3)c`'divert(-1)d", "bc");
        desk.gives("divert(7)", "");
        desk.fails("divert(9)i`'divert(0)incr(x)", 36, 1);
    }

    public static void main(String[] args) {
        Desk desk = new Desk("Promise 5: run");
        current(desk);
        divert(desk);
        below(desk);
        above(desk);
        oneAfterTheOther(desk);
        allInOrder(desk);
        behindTheCurrent(desk);
        areEmpty(desk);
        inTheEnd(desk);
        desk.end();
    }
}
