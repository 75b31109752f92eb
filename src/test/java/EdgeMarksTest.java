/** The sentences of promise 5 about what a defined text makes of its name and arguments. */
public final class EdgeMarksTest {
    private static void name(Desk desk) {
        desk.about("in it $0 is the name");
        desk.gives("define(`f',``$0$0'')f f() f(a)", "ff ff ff");
        desk.gives("define(`_1',``$0'')_1", "_1");
        desk.gives("define(`f',`ifelse($1,x,``$0'',`$0(x)')')f", "f");
    }

    private static void nine(Desk desk) {
        desk.about("$1 .. $9 are arguments (nothing, if there are less)");
        desk.gives("define(`f',`<$1>')f f() f(a) f(a,b)", "<> <> <a> <a>");
        desk.gives("define(`f',`<$2>')f f() f(a) f(a,b) f(,)", "<> <> <> <b> <>");
        String all = "define(`f',`$9$8$7$6$5$4$3$2$1')";
        desk.gives(all + "f(1,2,3,4,5,6,7,8)", "87654321");
        desk.gives(all + "f(1,2,3,4,5,6,7,8,9)", "987654321");
        desk.gives(all + "f(1,2,3,4,5,6,7,8,9,0)", "987654321");
        desk.gives("define(`f',`$10$11$19')f(a)", "a0a1a9");
        desk.gives("define(`f',`$1')f(`$1',b) f(`$2',b) f(`$#')", "$1 $2 $#");
        desk.gives("define(`f',`$1')define(`g',`+')f(`g')", "+");
    }

    private static void howMany(Desk desk) {
        desk.about("$# is how many");
        desk.gives("define(`f',`$#')f f() f(,) f(,,,,,,,,) f(,,,,,,,,,)", "0 1 2 9 10");
        desk.gives("define(`f',`$#')f(" + ",".repeat(99) + ") f(" + ",".repeat(8191) + ")", "100 8192");
        desk.gives("define(`f',`$##')f", "0#");
    }

    private static void all(Desk desk) {
        desk.about("$* all with commas between");
        desk.gives("define(`f',`<$*>')f f() f(a) f(a,b) f(,) f(,a,) f(`a,b', c)", "<> <> <a> <a,b> <,> <,a,> <a,b,c>");
        desk.gives("define(`f',`<$*>')f(1,2,3,4,5,6,7,8,9,10,11)", "<1,2,3,4,5,6,7,8,9,10,11>");
        desk.gives("define(`f',`g($*)')define(`g',`$#')f(a,`b,c') f() f", "3 1 1");
        desk.gives("define(`f',`$*')define(`g',`+')f(`g',`g')", "+,+");
    }

    private static void allInQuotes(Desk desk) {
        desk.about("$@ likewise, each in quotes");
        desk.gives("define(`f',``<$@>'')f f() f(a) f(a,b) f(,)", "<> <`'> <`a'> <`a',`b'> <`',`'>");
        desk.gives("define(`f',`$@')define(`g',`+')f(`g',`g')", "g,g");
        desk.gives("define(`f',`g($@)')define(`g',`$#')f(a,`b,c') f() f", "2 1 1");
        desk.gives("define(`f',`$@')changequote(<<<<,>>>>)<<<<>>>>f(a,<<<<b>>>>)`'", "a,b`'");
        desk.gives("define(`f',`[<$@>]')changequote([,])f(a,b)changequote(!,?)f(a,b)", "<[a],[b]>[<a,b>]");
    }

    private static void anythingElse(Desk desk) {
        desk.about("$ before anything else stays.");
        for (char b = 0; b < 256; b++) {
            if ("0123456789#*@`'".indexOf(b) < 0) {
                desk.gives("define(`ff',`$" + b + "')ff(x)", "$" + b);
            }
        }
        desk.gives("define(`f',`$')f(x)", "$");
        desk.gives("define(`f',`$')f`'1", "$1");
        desk.gives("define(`f',`a$')f f(x)", "a$ a$");
        desk.gives("define(`f',`$$')f(x)", "$$");
        desk.gives("define(`f',`$$1$$')f(x)", "$x$$");
        desk.gives("define(`f',`$`'1')f(x)", "$1");
        desk.gives("define(`f',`$''`$1')f(x)", "$'x");
        desk.gives("$1 $# $* $$", "$1 $# $* $$");
    }

    public static void main(String[] args) {
        Desk desk = new Desk("Promise 5: run");
        name(desk);
        nine(desk);
        howMany(desk);
        all(desk);
        allInQuotes(desk);
        anythingElse(desk);
        desk.end();
    }
}
