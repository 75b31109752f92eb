/** The sentences of promise 6. */
public final class EdgeToldTest {
    private static Mill run(String text, int fuel) {
        Mill mill = Desk.fed(text);
        mill.run(fuel);
        return mill;
    }

    private static void latest(Desk desk) {
        desk.about("Of the latest run");
        Mill mill = run("define(`a',`bc')\nincr(x)", Desk.MUCH);
        int[] first = {2, 24, 1, 3};
        for (int what = 0; what < 4; what++) {
            desk.same("told(" + what + ") of the first run", mill.told(what), first[what]);
        }
        mill.clear();
        mill.feedText("xyz");
        for (int what = 0; what < 4; what++) {
            desk.same("told(" + what + ") of the first run, with another text", mill.told(what), first[what]);
        }
        mill.run(Desk.MUCH);
        int[] second = {0, 3, 0, 0};
        for (int what = 0; what < 4; what++) {
            desk.same("told(" + what + ") of the second run", mill.told(what), second[what]);
        }
    }

    private static void line(Desk desk) {
        desk.about("its error's line (what = 0; 0 without one)");
        desk.same("told(0) without an error", run("\n\nabc\n", Desk.MUCH).told(0), 0);
        desk.same("told(0) of no text", run("", Desk.MUCH).told(0), 0);
        desk.same("told(0) of an error in the first line", run("incr(x)", Desk.MUCH).told(0), 1);
        desk.same("told(0) of an error in the third line", run("\n\nincr(x)", Desk.MUCH).told(0), 3);
        Mill mill = run("\n\nabc", 2);
        desk.same("told(0) of fuel that ends", mill.told(0), 3);
        mill.run(5);
        desk.same("told(0) without an error behind one with", mill.told(0), 0);
    }

    private static void taken(Desk desk) {
        desk.about("how many bytes it took (1)");
        desk.same("told(1) of no text", run("", Desk.MUCH).told(1), 0);
        desk.same("told(1) of three", run("abc", Desk.MUCH).told(1), 3);
        desk.same("told(1) with fuel for two", run("abc", 2).told(1), 2);
        desk.same("told(1) of what is put back too", run("len(abc)", Desk.MUCH).told(1), 9);
        desk.same("told(1) of an error", run("incr(x)yz", Desk.MUCH).told(1), 7);
        desk.same("told(1) of what has no end", run("define(`a',`a')a", 400000).told(1), 400000);
    }

    private static void meanings(Desk desk) {
        desk.about("how many defined meanings there are in its end (2)");
        desk.same("told(2) of none", run("len(a)", Desk.MUCH).told(2), 0);
        desk.same("told(2) of one", run("define(`a')", Desk.MUCH).told(2), 1);
        desk.same("told(2) of one twice", run("define(`a')define(`a')", Desk.MUCH).told(2), 1);
        desk.same("told(2) of a pile", run("pushdef(`a')pushdef(`a')pushdef(`b')", Desk.MUCH).told(2), 3);
        desk.same("told(2) of what is gone", run("define(`a')undefine(`a')", Desk.MUCH).told(2), 0);
        desk.same("told(2) without built-in ones", run("undefine(`len')popdef(`dnl')", Desk.MUCH).told(2), 0);
        desk.same("told(2) of an error", run("define(`a')incr(x)define(`b')", Desk.MUCH).told(2), 1);
    }

    private static void bytes(Desk desk) {
        desk.about("how many bytes all of these have, names and texts (3)");
        desk.same("told(3) of none", run("len(a)", Desk.MUCH).told(3), 0);
        desk.same("told(3) of a name", run("define(`abc')", Desk.MUCH).told(3), 3);
        desk.same("told(3) of a name and a text", run("define(`abc',`de')", Desk.MUCH).told(3), 5);
        desk.same("told(3) of a shorter text", run("define(`abc',`de')define(`abc',`f')", Desk.MUCH).told(3), 4);
        desk.same("told(3) of a pile", run("pushdef(`ab',`c')pushdef(`ab',`de')", Desk.MUCH).told(3), 7);
        desk.same("told(3) of what is gone", run("define(`abc',`de')popdef(`abc')", Desk.MUCH).told(3), 0);
        desk.same("told(3) on top of a built-in one", run("pushdef(`len',`x')", Desk.MUCH).told(3), 4);
        desk.same("told(3) in place of a built-in one", run("define(`len',`x')", Desk.MUCH).told(3), 4);
        desk.same("told(3) of an error", run("define(`a',`b')incr(x)", Desk.MUCH).told(3), 2);
    }

    private static void beforeAny(Desk desk) {
        desk.about("0 before any.");
        Mill mill = Desk.fed("define(`a',`b')\nincr(x)");
        mill.run(0);
        for (int what = 0; what < 4; what++) {
            desk.same("told(" + what + ") of a new object", new Mill().told(what), 0);
            desk.same("told(" + what + ") of a text that was not run", mill.told(what), 0);
        }
    }

    private static void bad(Desk desk) {
        desk.about("BAD: what is none of these.");
        Mill mill = run("a", 1);
        for (int what : new int[] {-1, 4, -2, 5, 256, Integer.MIN_VALUE, Integer.MAX_VALUE}) {
            desk.same("told(" + what + ") of a new object", new Mill().told(what), RescanMill.BAD);
            desk.same("told(" + what + ") behind a run", mill.told(what), RescanMill.BAD);
        }
    }

    public static void main(String[] args) {
        Desk desk = new Desk("Promise 6: told");
        latest(desk);
        line(desk);
        taken(desk);
        meanings(desk);
        bytes(desk);
        beforeAny(desk);
        bad(desk);
        desk.end();
    }
}
