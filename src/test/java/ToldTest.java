/** Promise 6. */
public final class ToldTest {
    private static void all(Desk desk, String of, Mill mill, int... due) {
        for (int what = 0; what < 4; what++) {
            desk.same("told(" + what + ") of " + of, mill.told(what), due[what]);
        }
    }

    public static void main(String[] args) {
        Desk desk = new Desk();
        Mill mill = new Mill();
        int[] bad = {4, -1, 5, Integer.MIN_VALUE, Integer.MAX_VALUE};
        for (int what : bad) {
            desk.same("told(" + what + ")", mill.told(what), RescanMill.BAD);
        }
        all(desk, "no run", mill, 0, 0, 0, 0);
        mill.feedText("define(`ab',`cde')pushdef(`ab',`f')pushdef(`len',)\nab");
        all(desk, "no run yet", mill, 0, 0, 0, 0);
        mill.run(Desk.MUCH);
        all(desk, "three meanings", mill, 0, 54, 3, 11);
        mill.run(20);
        all(desk, "a run cut short", mill, 1, 20, 1, 5);
        desk.same("a run that is BAD", mill.run(0), RescanMill.BAD);
        all(desk, "a run before one that is BAD", mill, 1, 20, 1, 5);

        mill = desk.gives("define(`a',`1')define(`a',`234')define(`b')undefine(`a')", "");
        all(desk, "undefined meanings", mill, 0, 56, 1, 1);
        mill = desk.gives("pushdef(`a',`1')pushdef(`a',`23')popdef(`a')", "");
        all(desk, "popped meanings", mill, 0, 44, 1, 2);
        mill = desk.gives("define(`len',`four')popdef(`len')", "");
        all(desk, "a meaning in place of a built-in one", mill, 0, 33, 0, 0);
        mill = desk.gives("undefine(`len',`define',`eval')", "");
        all(desk, "no built-in ones", mill, 0, 31, 0, 0);
        mill = desk.fails("\ndefine(`a',\n`x')\n\nincr(y)\n", 36, 5, 26);
        all(desk, "an error behind LFs", mill, 5, 26, 1, 2);
        desk.end();
    }
}
