/** The sentences of promise 5 about fuel, lines, and how a run begins and ends. */
public final class EdgeRunTest {
    private static final int[] NO_FUEL = {0, -1, 400001, 400002, Integer.MIN_VALUE, Integer.MAX_VALUE};
    /** A text for each error from 31 on; the one of 31 has no end. */
    private static final String[] WRONG = {"define(`a',`a')a", "`a", "len(a", "define(`a',`a(a)')a", "define(1)",
        "incr(x)", "changequote(a,b)", "eval(1+)", "eval(1/0)", "define(`a',`a`'x')a"};

    private static void badFuel(Desk desk) {
        desk.about("BAD, changing nothing: fuel is not 1 .. 400000.");
        for (int fuel : NO_FUEL) {
            Mill mill = Desk.fed("define(`a',`bc')\na`");
            desk.same("run(" + fuel + ") before any", mill.run(fuel), RescanMill.BAD);
            desk.same("told(1) before any", mill.told(1), 0);
            mill.run(Desk.MUCH);
            desk.same("run(" + fuel + ")", mill.run(fuel), RescanMill.BAD);
            desk.same("told(0) of the run before", mill.told(0), 2);
            desk.same("told(1) of the run before", mill.told(1), 21);
            desk.same("told(2) of the run before", mill.told(2), 1);
            desk.same("told(3) of the run before", mill.told(3), 3);
            desk.same("clear()", mill.clear(), 19);
            mill.feedText("xyz");
            mill.run(3);
            desk.same("run(" + fuel + ") with an out", mill.run(fuel), RescanMill.BAD);
            desk.same("the out of the run before", mill.out(), "xyz");
            desk.same("told(0) of a run without error", mill.told(0), 0);
        }
        desk.same("run(1)", Desk.fed("x").run(1), 0);
        desk.same("run(400000)", Desk.fed("x").run(400000), 0);
    }

    private static void numbers(Desk desk) {
        desk.about("A run over the text: 0, or the error's number.");
        desk.same("run of no text", new Mill().run(1), 0);
        for (int k = 0; k < WRONG.length; k++) {
            desk.same("run of " + WRONG[k], Desk.fed(WRONG[k]).run(Desk.MUCH), 31 + k);
            String quoted = "`" + WRONG[k].replaceAll("[`']", "") + "'";
            desk.same("run of " + quoted, Desk.fed(quoted).run(Desk.MUCH), 0);
        }
    }

    private static void anew(Desk desk) {
        desk.about("begins anew each time");
        String[] before = {"define(`a',`b')undefine(`len')", "changequote([,])", "divert(3)x", "divert(-1)", "len(len(\n",
            "`\n", "incr(x)", "\n\n\nlen(`x',`y'", "pushdef(`len',`1')pushdef(`len',`2')"};
        for (String text : before) {
            Mill mill = Desk.fed(text);
            mill.run(Desk.MUCH);
            mill.clear();
            mill.feedText("a len(`xy')[z]");
            desk.same("run behind one of " + text, mill.run(16), 0);
            desk.same("the out behind a run of " + text, mill.out(), "a 2[z]");
            desk.same("told(1) behind a run of " + text, mill.told(1), 15);
            desk.same("told(2) behind a run of " + text, mill.told(2), 0);
            desk.same("told(3) behind a run of " + text, mill.told(3), 0);
            mill.clear();
            mill.feedText("incr(x)");
            mill.run(16);
            desk.same("told(0) behind a run of " + text, mill.told(0), 1);
        }
        behindOther(desk, "define(`a',`$1$1$1$1$1$1$1$1$1')a(" + "x".repeat(4096) + ")", 40, "len(a)", "1");
        behindOther(desk, "len(" + "x".repeat(16000), 33, "len(" + "y".repeat(16381) + ")", "16381");
        behindOther(desk, "len(" + ",".repeat(8000), 33, "len(" + ",".repeat(8191) + ")", "0");
        behindOther(desk, "len(".repeat(50), 33, "len(".repeat(50) + ")".repeat(50), "1");
        behindOther(desk, "eval(1/0)", 39, "eval(1)", "1");
        behindOther(desk, "eval(" + "-(".repeat(15) + "1 1", 33, "eval(" + "(".repeat(30) + "1" + ")".repeat(31), "1");
        behindOther(desk, "eval(`" + "-(".repeat(15) + "1 1')", 38, "eval(" + "(".repeat(30) + "1" + ")".repeat(31), "1");
        behindOther(desk, "define(`a',`111')define(`b',`22')define(`c',`3')a b c", 0,
                "define(`c',`4')define(`b',`55')define(`a',`666')a b c", "666 55 4");
        behindOther(desk, "divert(1)" + "x".repeat(32000), 0, "y".repeat(32768), "y".repeat(32768));
        String names = "define(`d',`define(`n'$1,`$1;')ifelse($1,298,,`d(incr($1))')')d(0)";
        behindOther(desk, names, 0, names + "n0 n99 n298 n299", "0; 99; 298; n299");
        behindOther(desk, names, 0, "n0 n99 n298 d", "n0 n99 n298 d");
    }

    private static void behindOther(Desk desk, String before, int error, String text, String out) {
        Mill mill = Desk.fed(before);
        desk.same("the run before", mill.run(Desk.MUCH), error);
        mill.clear();
        mill.feedText(text);
        desk.same("run of " + text.length() + " bytes behind it", mill.run(Desk.MUCH), 0);
        desk.same("size() of it", mill.size(), out.length());
        for (int i = 0; i < 16; i++) {
            desk.same("word(" + i + ") of it", mill.word(i), Mill.wordOf(out, i));
        }
    }

    private static void errorEndsIt(Desk desk) {
        desk.about("an ERROR ends it, and the OUT is empty then (what else is told of it is as far as it went)");
        for (int k = 0; k < WRONG.length; k++) {
            String head = "divert(2)x`'divert`'out define(`k',`lmn')\n";
            Mill mill = Desk.fed(head + WRONG[k]);
            desk.same("run of " + head + WRONG[k], mill.run(Desk.MUCH), 31 + k);
            desk.same("its size()", mill.size(), 0);
            desk.same("its word(0)", mill.word(0), 0);
            desk.same("its told(0)", mill.told(0), 2);
            boolean definesMore = WRONG[k].startsWith("define(`a'");
            desk.same("its told(2)", mill.told(2), definesMore ? 2 : 1);
            desk.same("its told(3)", mill.told(3), 4 + (definesMore ? WRONG[k].length() - 14 : 0));
        }
        Mill mill = desk.fails("ab define(`c',`d')incr(x)define(`e',`f')\n", 36, 1, 25);
        desk.same("told(2) without what comes behind the error", mill.told(2), 1);
        desk.same("told(3) without what comes behind the error", mill.told(3), 2);
        mill = desk.gives("good", "good");
        mill.run(2);
        desk.same("size() of an error behind a good run", mill.size(), 0);
    }

    private static void firstError(Desk desk) {
        desk.about("It is the first one that comes about.");
        desk.fails("incr(x)define(1)", 36, 1, 7);
        desk.fails("define(1)incr(x)", 35, 1, 9);
        desk.fails("eval(1/0)\n`", 39, 1, 9);
        desk.fails("`incr(x)", 32, 1);
        desk.fails("len(incr(x)", 36, 1);
        desk.fails("len(`incr(x)", 32, 1);
        desk.fails("len(eval(1/0),incr(x))", 39, 1, 13);
        desk.fails("define(1,incr(x))", 36, 1, 16);
        desk.fails("substr(abc,x,eval(1/0))", 39, 1, 22);
        desk.fails("len(`" + "x".repeat(16382) + "'incr(x))", 40, 1, 4 + 16384);
        desk.fails("define(`a',`" + "$1".repeat(8000) + "')incr(x)a(xxxxx)", 36, 1, 16021);
    }

    private static void takes(Desk desk, String text, int taken) {
        Mill mill = Desk.fed(text);
        desk.same("run(" + taken + ") of " + text, mill.run(taken), 0);
        desk.same("told(1) of " + text, mill.told(1), taken);
        desk.same("run(" + (taken - 1) + ") of " + text, mill.run(taken - 1), 31);
        desk.same("told(1) of " + text + " cut short", mill.told(1), taken - 1);
        desk.same("run with one more of fuel of " + text, mill.run(taken + 1), 0);
        desk.same("told(1) with one more of fuel of " + text, mill.told(1), taken);
    }

    private static void eachByte(Desk desk) {
        desk.about("Each byte that is taken from the input, in whatever way, takes one of FUEL");
        takes(desk, "x ", 2);
        takes(desk, ";;", 2);
        takes(desk, "abc", 3);
        takes(desk, "`a'", 3);
        takes(desk, "`'", 2);
        takes(desk, "`a`b'c'", 7);
        takes(desk, "changequote(<<<<,>>>>)<<<<a<<<<b>>>>c>>>>", 41);
        takes(desk, "#ab\n", 4);
        takes(desk, "#ab", 3);
        takes(desk, "dnl", 3);
        takes(desk, "dnl ab\n", 7);
        takes(desk, "dnl(a,b)c\n", 10);
        takes(desk, "len()", 6);
        takes(desk, "len( \n\tx , (y) )", 17);
        takes(desk, "divert(-1)lost", 14);
        takes(desk, "define(`f',`xyz')f", 21);
        takes(desk, "define(`f',`$1$1')f(ab)", 27);
        takes(desk, "define(`f',`g')define(`g',`h')f", 33);
        takes(desk, "ifelse(a,b,`len(xy)')", 21);
        takes(desk, "ifelse(a,a,`len(xy)')", 29);
        takes(desk, "shift(a,b)", 13);
    }

    /** A text of which a run takes 400000 bytes and, with one byte more, one too many. */
    private static void mostFuel(Desk desk) {
        String head = "divert(-1)define(`a',`" + " ".repeat(8000) + "')" + "a ".repeat(48);
        String text = head + " ".repeat(400000 - head.length() - 48 * 8000);
        Mill mill = Desk.fed(text);
        desk.same("run(400000) of as many", mill.run(400000), 0);
        desk.same("told(1) of as many", mill.told(1), 400000);
        mill.feed(' ', 1);
        desk.same("run(400000) of one more", mill.run(400000), 31);
        desk.same("told(1) of one more", mill.told(1), 400000);
    }

    private static void withFuel(Desk desk, String text, int fuel, int error) {
        Mill mill = Desk.fed(text);
        desk.same("run(" + fuel + ") of " + text, mill.run(fuel), error);
        desk.same("told(1) of run(" + fuel + ") of " + text, mill.told(1), fuel);
    }

    private static void noFuelLeft(Desk desk) {
        desk.about("error 31 FUEL, when none is left for the next byte");
        mostFuel(desk);
        withFuel(desk, "abc", 2, 31);
        withFuel(desk, "abc", 3, 0);
        withFuel(desk, "`abc", 3, 31);
        withFuel(desk, "`abc", 4, 32);
        withFuel(desk, "len(a", 4, 31);
        withFuel(desk, "len(a", 5, 33);
        withFuel(desk, "len(", 3, 31);
        withFuel(desk, "define(1)x", 8, 31);
        withFuel(desk, "define(1)x", 9, 35);
        withFuel(desk, "len(".repeat(50) + "len(", 202, 31);
        withFuel(desk, "len(".repeat(50) + "len(", 203, 34);
        withFuel(desk, "dnl a\n", 5, 31);
        withFuel(desk, "dnl a", 5, 0);
        withFuel(desk, "#a\n", 2, 31);
        withFuel(desk, "#a", 2, 0);
        withFuel(desk, "changequote(<<<<,>>>>)<<<<", 25, 31);
        withFuel(desk, "changequote(<<<<,>>>>)<<<<", 26, 32);
        withFuel(desk, "changequote(<<<<,>>>>)<<<<>>>>", 29, 31);
        withFuel(desk, "changequote(<<<<,>>>>)<<<<>>>>", 30, 0);
        Mill mill = Desk.fed("define(`a',`\n')\n\na x");
        for (int fuel = 1; fuel < 21; fuel++) {
            desk.same("run(" + fuel + ") of " + 21, mill.run(fuel), 31);
            desk.same("told(1) of run(" + fuel + ")", mill.told(1), fuel);
            desk.same("told(0) of run(" + fuel + ")", mill.told(0), fuel < 13 ? 1 : fuel < 16 ? 2 : fuel < 17 ? 3 : 4);
        }
        desk.same("run(21) of 21", mill.run(21), 0);
    }

    private static void lines(Desk desk) {
        desk.about("The error's LINE is 1 more than the LFs of the text that were taken.");
        desk.fails("incr(x)", 36, 1);
        desk.fails("incr(x)\n", 36, 1, 7);
        desk.fails("\nincr(x)", 36, 2);
        desk.fails("\n\n\nincr(x)", 36, 4);
        desk.fails("incr(\n\nx)", 36, 3);
        desk.fails("incr(x\n)", 36, 2);
        desk.fails("`\n\n'incr(x)", 36, 3);
        desk.fails("#\nincr(x)", 36, 2);
        desk.fails("dnl\nincr(x)", 36, 2);
        desk.fails("dnl a\n\ndnl b\nincr(x)", 36, 4);
        desk.fails("\r\u000b\f\t incr(x)", 36, 1);
        desk.fails("define(`f',`\n\n')f f f incr(x)", 36, 3, 35);
        desk.fails("define(`f',``\n'')f(incr(\nx))", 36, 3, 27);
        desk.fails("define(`f',`dnl\n')f\nincr(x)", 36, 3, 31);
        desk.fails("define(`f',`incr(x)')\n\nf\n", 36, 3, 31);
        desk.fails("\n".repeat(32761) + "incr(x)", 36, 32762);
    }

    public static void main(String[] args) {
        Desk desk = new Desk("Promise 5: run");
        badFuel(desk);
        numbers(desk);
        anew(desk);
        errorEndsIt(desk);
        firstError(desk);
        eachByte(desk);
        noFuelLeft(desk);
        lines(desk);
        desk.end();
    }
}
