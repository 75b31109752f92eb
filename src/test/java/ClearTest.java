/** Promise 4. */
public final class ClearTest {
    public static void main(String[] args) {
        Desk desk = new Desk();
        Mill mill = Desk.fed("define(`a',`b\n')a`");
        desk.same("run", mill.run(Desk.MUCH), 32);
        desk.same("clear()", mill.clear(), 18);
        desk.same("clear() once more", mill.clear(), 0);
        desk.same("told(0) is of the latest run still", mill.told(0), 2);
        desk.same("told(2) is of the latest run still", mill.told(2), 1);
        mill.feedText("xyz");
        desk.same("run of the new text", mill.run(Desk.MUCH), 0);
        desk.same("the new out", mill.out(), "xyz");
        desk.same("clear() of the new text", mill.clear(), 3);
        desk.same("the out stays", mill.out(), "xyz");
        desk.same("run of no text", mill.run(Desk.MUCH), 0);
        desk.same("no out of no text", mill.size(), 0);
        desk.same("nothing taken of no text", mill.told(1), 0);
        desk.end();
    }
}
