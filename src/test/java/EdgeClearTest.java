/** The sentence of promise 4. */
public final class EdgeClearTest {
    private static void empty(Desk desk) {
        desk.about("The text is empty");
        Mill mill = Desk.fed("define(`a',`b\n')a`");
        mill.clear();
        desk.same("again(0, 1)", mill.again(0, 1), RescanMill.BAD);
        desk.same("run(1)", mill.run(1), 0);
        desk.same("told(1)", mill.told(1), 0);
        desk.same("size()", mill.size(), 0);
        desk.same("feed behind it", mill.feed('x', 1), 1);
        mill.run(100);
        desk.same("the out of what was fed", mill.out(), "x");
        mill = Desk.fed("x".repeat(32768));
        mill.clear();
        mill.feedText("y".repeat(32760));
        desk.same("feed up to the end once more", mill.feed(0, 8), 32768);
    }

    private static void howMany(Desk desk) {
        desk.about("how many bytes it had");
        desk.same("clear() of a new object", new Mill().clear(), 0);
        desk.same("clear() of one byte", Desk.fed("x").clear(), 1);
        desk.same("clear() of a full text", Desk.fed("x".repeat(32768)).clear(), 32768);
        Mill mill = Desk.fed("abcde");
        mill.again(0, 2);
        mill.run(100);
        desk.same("clear() behind again and run", mill.clear(), 7);
        desk.same("clear() once more", mill.clear(), 0);
        mill.feed(0, 3);
        desk.same("clear() of bytes of 0", mill.clear(), 3);
    }

    public static void main(String[] args) {
        Desk desk = new Desk("Promise 4: clear");
        empty(desk);
        howMany(desk);
        desk.end();
    }
}
