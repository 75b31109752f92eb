/** The sentence of promise 1, asked of a new object by each call alone. */
public final class EdgeNewObjectTest {
    private static void emptyText(Desk desk) {
        desk.about("An empty text");
        desk.same("clear()", new Mill().clear(), 0);
        desk.same("again(0, 1)", new Mill().again(0, 1), RescanMill.BAD);
        desk.same("again(0, 0)", new Mill().again(0, 0), RescanMill.BAD);
        desk.same("feed(97, 1)", new Mill().feed(97, 1), 1);
        Mill mill = new Mill();
        desk.same("run(1)", mill.run(1), 0);
        desk.same("told(1) of run(1)", mill.told(1), 0);
        desk.same("size() of run(1)", mill.size(), 0);
    }

    private static void nothingRun(Desk desk) {
        desk.about("nothing run");
        for (int what = 0; what < 4; what++) {
            desk.same("told(" + what + ")", new Mill().told(what), 0);
        }
        desk.same("size()", new Mill().size(), 0);
        desk.same("word(0)", new Mill().word(0), 0);
        desk.same("told(1) of a text that was not run", Desk.fed("abc").told(1), 0);
        desk.same("size() of a text that was not run", Desk.fed("abc").size(), 0);
        desk.same("word(0) of a text that was not run", Desk.fed("abc").word(0), 0);
    }

    public static void main(String[] args) {
        Desk desk = new Desk("Promise 1: A new object");
        emptyText(desk);
        nothingRun(desk);
        desk.end();
    }
}
