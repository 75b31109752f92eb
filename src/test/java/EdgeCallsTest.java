/** The sentences of promise 5 about calls and their arguments. */
public final class EdgeCallsTest {
    private static final String F = "define(`f',`[$#|$1|$2|$3]')";
    private static final String E = "define(`e',`')";
    private static final String STARRED = "define pushdef undefine popdef ifdef ifelse eval incr decr len index substr shift";
    private static final String FIFTY = "len(".repeat(50);

    private static void directlyBehind(Desk desk) {
        desk.about("by ( directly behind it, the ARGUMENTS are read");
        desk.gives(F + "f(a)", "[1|a||]");
        desk.gives(F + "f (a)", "[0|||] (a)");
        desk.gives(F + "f\n(a)", "[0|||]\n(a)");
        desk.gives(F + "f`'(a)", "[0|||](a)");
        desk.gives(F + "f`(a)'", "[0|||](a)");
        desk.gives(F + "define(`g',`f')g(a)", "[0|||]");
        desk.gives(F + "define(`g',`f(')g a)", "[1|a||]");
        desk.gives("len (a)", "len (a)");
    }

    private static void inFront(Desk desk) {
        desk.about("blanks and LF in front of each (as long as no other token came for it, be it a name that is called or"
                + " an empty quoted text) count for nothing");
        desk.gives(F + "f( \t\u000b\f\r\na \n, \n b )", "[2|a \n|b |]");
        desk.gives(F + "f( )", "[1|||]");
        desk.gives(F + "f( ,\n)", "[2|||]");
        desk.gives(F + "f(`' a, `' b)", "[2| a| b|]");
        desk.gives(F + "f(`' , `'`' )", "[2| | |]");
        desk.gives(F + E + "f(e a, e b)", "[2| a| b|]");
        desk.gives(F + E + "f( e(x) a, e )", "[2| a| |]");
        desk.gives(F + "define(`e',` x')f(e,  e )", "[2| x| x |]");
        desk.gives(F + "f( len a, len(b) c)", "[2|len a|1 c|]");
        desk.gives(F + "f( ( a), (b) )", "[2|( a)|(b) |]");
        desk.gives(F + "f( ( , ))", "[1|( , )||]");
        desk.gives(F + "f(dnl x\n a)", "[1| a||]");
        desk.gives(F + "f( # \n a)", "[1|# \n a||]");
        desk.gives(F + "f( `' `' a)", "[1|  a||]");
    }

    private static void pieces(Desk desk) {
        desk.about("tokens then are put into it (quoted ones without their quotes, each a piece), names that are macros are called");
        desk.gives(F + "f(a`b'c``d''`')", "[1|abcd||]");
        desk.gives(F + "f(`a b' `c,d')", "[1|a b c,d||]");
        desk.gives("define(`f',``<$1>'')f(`f'f``f'')", "<f<>`f'>");
        desk.gives(F + "f(len(a),f(b))", "[2|1|[1|b||]|]");
        desk.gives(F + "define(`c',`a,b')f(c)f(`c')", "[2|a|b|][1|a,b||]");
        desk.gives("define(`c',`a,b')len(c)len(`c')", "11");
    }

    private static void nesting(Desk desk) {
        desk.about("( and ) outside of quotes nest, a comma outside of these ends an argument, the ) that belongs to the"
                + " first ( ends all.");
        desk.gives(F + "f((a,b),c)", "[2|(a,b)|c|]");
        desk.gives(F + "f(a(,(,),)b,c)d)", "[2|a(,(,),)b|c|]d)");
        desk.gives(F + "f(`(',`)',`,')", "[3|(|)|,]");
        desk.gives(F + "f(a)b)", "[1|a||]b)");
        desk.gives(F + "f())", "[1|||])");
        desk.gives(F + "f(,,)", "[3|||]");
        desk.gives("len(" + "(".repeat(8000) + ")".repeat(8000) + ")", "16000");
        desk.gives("len(a,)),(", "1),(");
    }

    private static void callError(Desk desk) {
        desk.about("Error 33 CALL: the input ends before (its line is that of the input's end).");
        desk.gives("len(a)", "1");
        desk.fails("len(", 33, 1);
        desk.fails("len(a", 33, 1);
        desk.fails("len(a,", 33, 1);
        desk.fails("len((a)", 33, 1);
        desk.fails("len(\n\na\n", 33, 4);
        desk.fails("\nlen(\n", 33, 3);
        desk.fails("len(len(\na)", 33, 2, 12);
        desk.fails("len(dnl )", 33, 1);
        desk.fails("dnl(\n", 33, 2);
        desk.fails("divert(", 33, 1);
        desk.fails("undivert(", 33, 1);
        desk.fails("changequote(", 33, 1);
        desk.fails(E + "e(", 33, 1);
        desk.fails("define(`f',`len(\n')f", 33, 2, 25);
        desk.gives("x(", "x(");
    }

    private static void noArguments(Desk desk) {
        desk.about("() is one argument without bytes. Without ( there are none");
        desk.gives("define(`f',`$#')f() f f(()) f(`')", "1 0 1 1");
        desk.gives("define(`f',`$#')f", "0");
        desk.gives("define(`f',``<$@>'')f() f", "<`'> <>");
        desk.gives("divert(2)a divert()b undivert()c", "b a c");
    }

    private static void starred(Desk desk) {
        desk.about("a built-in macro that is marked * below is no macro there");
        desk.gives(STARRED, STARRED);
        for (String name : STARRED.split(" ")) {
            desk.gives(name, name);
            desk.gives("len(" + name + ")" + name + " ()", name.length() + name + " ()");
            desk.gives(FIFTY + name + ")".repeat(50), "1");
            desk.gives("pushdef(`" + name + "',`+')" + name, "+");
        }
        desk.gives("a`'dnl\nb`'divert(1)c`'divert`'d`'undivert`'changequote`e'", "abdce");
    }

    private static void meaningAtTheEnd(Desk desk) {
        desk.about("The meaning is the top one that the name has when all arguments are read; if it has none then, nothing"
                + " comes of it.");
        desk.gives("define(`f',`1')f(define(`f',`2'))", "2");
        desk.gives("define(`f',`1')f(pushdef(`f',`2$1'))f", "22");
        desk.gives("pushdef(`f',`1')pushdef(`f',`2')f(popdef(`f'))", "1");
        desk.gives("define(`f',`1')[f(undefine(`f'))]f", "[]f");
        desk.gives("define(`f',`1')[f(a,popdef(`f')b)]f", "[]f");
        desk.gives("[len(undefine(`len')abc)]len(a)", "[]len(a)");
        desk.gives("len(define(`len',`<$1>')abc)", "<abc>");
        desk.gives("pushdef(`len',`<$1>')len(popdef(`len')abc)", "3");
    }

    private static void deep(Desk desk) {
        desk.about("At most 50 calls are open at once (those without arguments are for a moment, and count likewise): error"
                + " 34 DEEP, when the name has been taken, before its (.");
        desk.gives(FIFTY + ")".repeat(50), "1");
        desk.gives("define(`f',`<$1$2$#>')" + "f(".repeat(50) + "a,b" + ")".repeat(50),
                "<".repeat(50) + "ab2>" + "1>".repeat(49));
        desk.fails(FIFTY + "len()" + ")".repeat(50), 34, 1, 203);
        desk.fails(FIFTY + "len(", 34, 1, 203);
        desk.gives(FIFTY + "len" + ")".repeat(50), "1");
        desk.fails(FIFTY + "dnl", 34, 1);
        desk.gives("len(".repeat(49) + "dnl\n" + ")".repeat(49), "1");
        desk.fails(E + FIFTY + "e" + ")".repeat(50), 34, 1, 215);
        desk.fails(E + FIFTY + "e()" + ")".repeat(50), 34, 1, 215);
        desk.gives(E + "len(".repeat(49) + "e" + ")".repeat(49), "1");
        desk.gives(E + "len(".repeat(49) + "e()e" + ")".repeat(49), "1");
        desk.gives("len(".repeat(49) + "len()len()" + ")".repeat(49), "1");
        desk.fails("\n" + FIFTY + "\nlen(\n", 34, 3, 205);
        desk.fails("define(`a',`a(a)')a", 34, 1, 169);
        desk.gives("define(`r',`ifelse($1,0,`.',`r(decr($1))')')r(200)", ".");
        desk.gives(FIFTY + ")".repeat(50) + FIFTY + ")".repeat(50), "11");
    }

    private static void otherTokens(Desk desk) {
        desk.about("All other tokens go to the current diversion, or the argument at hand.");
        desk.gives("a 1(`b'),#c\nd", "a 1(b),#c\nd");
        desk.gives("divert(1)a`b'divert`'c", "cab");
        desk.gives("divert(1)len(a`b'#,)\n)divert`'c", "c6");
        desk.gives("len(divert(-1)abc)divert`'d", "d");
        desk.gives("divert(-1)define(`f',`<$1>')divert`'f(divert(3)x)divert`'y", "y<x>");
    }

    private static void moreAndLess(Desk desk) {
        desk.about("More arguments than are told count for nothing; those that are not there are without bytes.");
        desk.gives("define(`a',`1',`2')a pushdef(`a',`3',`4')a", "1 3");
        desk.gives("define(`a')[a]pushdef(`b')[b]", "[][]");
        desk.gives("ifdef(`len',`y',`n',`m') ifdef(`x',`y',`n',`m') ifdef(`len')ifdef(`x',`y')ifdef(`x')ifdef()", "y n ");
        desk.gives("eval(1,x)incr(1,x)decr(1,x)len(a,bc)index(abc,c,d)substr(abc,1,1,x)", "12012b");
        desk.gives("eval(1,2)incr(1,2)decr(1,2)len(1,2)index(212,1,2)substr(abc,1,1,1)", "12011b");
        desk.gives("eval(1,+2)", "1");
        desk.fails("eval(1+,2)", 38, 1);
        desk.gives("incr()decr()len()index()index(a)index(`',a)substr()substr(a)[shift()]", "1-1000-1a[]");
        desk.gives("divert(1,x)a`'divert(0,9)b", "ba");
        desk.gives("changequote([,],`(',9)[a]", "a");
        desk.gives("dnl(a,b,c)d\ne", "e");
        desk.fails("eval(,1)", 38, 1);
        desk.fails("define(,`a')", 35, 1);
        desk.fails("changequote([)", 37, 1);
    }

    public static void main(String[] args) {
        Desk desk = new Desk("Promise 5: run");
        directlyBehind(desk);
        inFront(desk);
        pieces(desk);
        nesting(desk);
        callError(desk);
        noArguments(desk);
        starred(desk);
        meaningAtTheEnd(desk);
        deep(desk);
        otherTokens(desk);
        moreAndLess(desk);
        desk.end();
    }
}
