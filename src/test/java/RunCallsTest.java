/** Promise 5: calls, their arguments and what a defined text makes of them. */
public final class RunCallsTest {
    private static final String F = "define(`f',`[$#|$1|$2|$3]')";

    private static void arguments(Desk desk) {
        desk.gives(F + "f", "[0|||]");
        desk.gives(F + "f()", "[1|||]");
        desk.gives(F + "f(,)", "[2|||]");
        desk.gives(F + "f (a)", "[0|||] (a)");
        desk.gives(F + "f`'(a)", "[0|||](a)");
        desk.gives(F + "f(a,b,c,d)", "[4|a|b|c]");
        desk.gives(F + "f( a ,\n\tb\n,\u000b\f\rc )", "[3|a |b\n|c ]");
        desk.gives(F + "f(`' a, `' `' b)", "[2| a|  b|]");
        desk.gives(F + "define(`e',`')f(e a, e)", "[2| a||]");
        desk.gives(F + "define(`e',` x')f(e,  e e)", "[2| x| x  x|]");
        desk.gives(F + "f((a,b),(,(c)),d)", "[3|(a,b)|(,(c))|d]");
        desk.gives(F + "f(`a,b',`)',`(')", "[3|a,b|)|(]");
        desk.gives(F + "f(`f'(x,y))", "[1|[2|x|y|]||]");
        desk.gives(F + "f(f(a,b),c)", "[2|[2|a|b|]|c|]");
        desk.gives(F + "f(#a,b)\n,c)", "[2|#a,b)\n|c|]");
        desk.gives(F + "f(\n #x\n)", "[1|#x\n||]");
        desk.gives(F + "f(dnl x,y)\n a)", "[1| a||]");
        desk.gives(F + "f(dnl\na)", "[1|a||]");
        desk.gives(F + "f(len)", "[1|len||]");
        desk.gives(F + "f( len len(x))", "[1|len 1||]");
        desk.gives(F + "f(a`b'c`'d)", "[1|abcd||]");
        desk.gives(F + "define(`c',`,')f(a`'c`'b)", "[2|a|b|]");
        desk.gives(F + "define(`c',`)')f(a`'c`'b", "[1|a||]b");
        desk.gives("define(`c',``,'')len(a`'c`'b)", "3");
        desk.fails("define(`f',`x')f(a", 33, 1);
        desk.fails("len(a,(b)", 33, 1);
        desk.fails("len(", 33, 1);
        desk.fails("dnl(", 33, 1);
    }

    private static void marks(Desk desk) {
        desk.gives("define(`f',``$0'')f f(1)", "f f");
        desk.gives("define(`f',`$9$8$7$6$5$4$3$2$1')f(1,2,3,4,5,6,7,8,9,0)", "987654321");
        desk.gives("define(`f',`$10$11')f(a)", "a0a1");
        desk.gives("define(`f',`$$ $a $- $')f(1)", "$$ $a $- $");
        desk.gives("define(`f',`$$1$')f(x)", "$x$");
        desk.gives("define(`f',`<$*>')f f() f(a) f(a, b,`c,d')", "<> <> <a> <a,b,c,d>");
        desk.gives("define(`f',``<$@>'')f f() f(a,`b,c')", "<> <`'> <`a',`b,c'>");
        desk.gives("define(`f',`[<$@>]')changequote([,])f(a,[b,c])", "<[a],[b,c]>");
        desk.gives("define(`f',`$#')f f() f(,) f(,,,,,,,,,,)", "0 1 2 11");
        desk.gives("define(`f',`g($@)')define(`g',`$#')f(a,`b,c',d)", "3");
        desk.gives("define(`f',`g($*)')define(`g',`$#')f(a,`b,c',d)", "4");
        desk.gives("define(`f',`$')f`'1", "$1");
    }

    private static void meanings(Desk desk) {
        desk.gives("define(`f',`1')f(define(`f',`2'))", "2");
        desk.gives("define(`f',`1')f(undefine(`f'))f", "f");
        desk.gives("pushdef(`f',`1')pushdef(`f',`2')f(popdef(`f'))f", "11");
        desk.gives("len(undefine(`len')abc)len(a)", "len(a)");
        desk.gives("len(define(`len',`<$1>')abc)len", "<abc><>");
        desk.gives("pushdef(`len',`<$1>')len len(a) popdef(`len')len len(a)", "<> <a> len 1");
        desk.gives("define len pushdef undefine popdef ifdef ifelse eval incr decr index substr shift",
                "define len pushdef undefine popdef ifdef ifelse eval incr decr index substr shift");
        desk.gives("define(`f',`1')f(f(define(`f',`<$1>')a)b)", "<<a>b>");
    }

    private static void depth(Desk desk) {
        String fifty = "len(".repeat(50);
        desk.gives(fifty + "len" + ")".repeat(50), "1");
        desk.gives(fifty + "x y" + ")".repeat(50), "1");
        desk.fails(fifty + "dnl", 34, 1);
        desk.fails(fifty + "len(", 34, 1, 203);
        desk.fails("define(`e',`')" + fifty + "e)", 34, 1, 215);
        desk.gives("define(`e',`')" + "len(".repeat(49) + "e" + ")".repeat(49), "1");
        desk.gives("define(`e',`')" + "len(".repeat(49) + "e(a)" + ")".repeat(49), "1");
        desk.fails("define(`e',`\n\n')\n" + fifty + "\ne", 34, 5, 219);
        desk.gives("define(`r',`ifelse($1,0,`.',`r(decr($1))')')r(200)", ".");
    }

    public static void main(String[] args) {
        Desk desk = new Desk();
        arguments(desk);
        marks(desk);
        meanings(desk);
        depth(desk);
        desk.end();
    }
}
