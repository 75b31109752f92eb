/** The sentence of promise 7. */
public final class EdgeSizeTest {
    private static void size(Desk desk) {
        desk.about("How many bytes the out has.");
        desk.same("size() before any run", new Mill().size(), 0);
        Mill mill = Desk.fed("abc");
        desk.same("size() before the text is run", mill.size(), 0);
        mill.run(3);
        desk.same("size() of three", mill.size(), 3);
        mill.run(2);
        desk.same("size() after an error", mill.size(), 0);
        mill.run(3);
        desk.same("size() after an error and a run without one", mill.size(), 3);
        desk.same("run(0)", mill.run(0), RescanMill.BAD);
        desk.same("size() after a run that is BAD", mill.size(), 3);
        mill.clear();
        mill.feedText("define(`a',`b')divert(-1)a");
        mill.run(Desk.MUCH);
        desk.same("size() after a run without bytes", mill.size(), 0);
        mill.clear();
        mill.run(1);
        desk.same("size() after a run of no text", mill.size(), 0);
        for (int n : new int[] {1, 7, 8, 9, 32767, 32768}) {
            mill = Desk.fed("x".repeat(n));
            mill.run(n);
            desk.same("size() of " + n, mill.size(), n);
        }
        mill = Desk.fed("\0\0a\0");
        mill.run(4);
        desk.same("size() with bytes of 0", mill.size(), 4);
    }

    public static void main(String[] args) {
        Desk desk = new Desk("Promise 7: size");
        size(desk);
        desk.end();
    }
}
