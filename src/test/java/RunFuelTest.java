/** Promise 5: fuel, lines, and that a run begins anew. */
public final class RunFuelTest {
    private static void cutShort(Desk desk, String text, int taken, int line) {
        Mill mill = Desk.fed(text);
        for (int fuel = 1; fuel < taken; fuel++) {
            desk.same("run(" + fuel + ") of " + text, mill.run(fuel), 31);
            desk.same("told(1) of run(" + fuel + ") of " + text, mill.told(1), fuel);
        }
        desk.same("told(0) of the last of these", mill.told(0), line);
        desk.same("run(" + taken + ") of " + text, mill.run(taken), 0);
        desk.same("told(1) of " + text, mill.told(1), taken);
    }

    public static void main(String[] args) {
        Desk desk = new Desk();
        Mill mill = Desk.fed("abc");
        int[] bad = {0, -1, 400001, Integer.MIN_VALUE, Integer.MAX_VALUE};
        for (int fuel : bad) {
            desk.same("run(" + fuel + ")", mill.run(fuel), RescanMill.BAD);
        }
        desk.same("nothing was changed", mill.told(1), 0);
        desk.same("run(400000)", mill.run(400000), 0);

        cutShort(desk, "x\ny\nz", 5, 3);
        cutShort(desk, "`a\n`b'\n'c", 9, 3);
        cutShort(desk, "#a\n#b", 5, 2);
        cutShort(desk, "dnl a\n\ndnl b", 12, 3);
        cutShort(desk, "define(`f',`<$1$1>')f(xy)", 31, 1);
        cutShort(desk, "define(`f',`\n\n')f f", 23, 3);
        cutShort(desk, "changequote(<<<,>>>)<<<a>>>", 27, 1);

        mill = Desk.fed("define(`a',`b')undefine(`len')changequote(`[',`]')divert(3)a");
        for (int i = 0; i < 3; i++) {
            desk.same("run number " + i, mill.run(Desk.MUCH), 0);
            desk.same("the out of run number " + i, mill.out(), "b");
            desk.same("told(1) of run number " + i, mill.told(1), 61);
        }
        mill.clear();
        mill.feedText("a len(`xy') [z]");
        mill.run(Desk.MUCH);
        desk.same("nothing stays of the run before", mill.out(), "a 2 [z]");

        desk.fails("a\n`b\nc", 32, 2);
        desk.fails("\n\n`a`b\n'\n\n", 32, 3);
        desk.fails("len(\n\n`b\nc", 32, 3);
        desk.fails("len(\n\nb\nc", 33, 4);
        desk.fails("define(`f',`\n\n`')\n", 32, 1);
        desk.fails("define(`f',``\n\n'')f\nincr(f-)", 36, 4, 36);
        desk.fails("define(`f',``$1'')f(\n)f(incr(\nq))", 36, 3, 34);
        desk.end();
    }
}
