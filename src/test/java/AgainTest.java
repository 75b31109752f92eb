/** Promise 3. */
public final class AgainTest {
    public static void main(String[] args) {
        Desk desk = new Desk();
        Mill mill = Desk.fed("abcde");
        int[][] bad = {{0, 0}, {0, -1}, {-1, 1}, {-1, 2}, {5, 1}, {4, 2}, {0, 6}, {6, 1}, {1, 5},
            {Integer.MAX_VALUE, 1}, {1, Integer.MAX_VALUE}, {Integer.MAX_VALUE, Integer.MAX_VALUE},
            {Integer.MIN_VALUE, Integer.MIN_VALUE}, {Integer.MIN_VALUE, Integer.MAX_VALUE}, {2, Integer.MIN_VALUE}};
        for (int[] pair : bad) {
            desk.same("again(" + pair[0] + ", " + pair[1] + ")", mill.again(pair[0], pair[1]), RescanMill.BAD);
        }
        desk.same("again(1, 3)", mill.again(1, 3), 8);
        desk.same("again(7, 1)", mill.again(7, 1), 9);
        desk.same("again(0, 9)", mill.again(0, 9), 18);
        mill.run(Desk.MUCH);
        desk.same("what came again", mill.out(), "abcdebcddabcdebcdd");

        for (int had = 18; had < 32760; ) {
            had = mill.again(0, Math.min(had, 32760 - had));
        }
        desk.same("again 9 beyond the end", mill.again(3, 9), RescanMill.FULL);
        desk.same("again BAD comes first", mill.again(32760, 9), RescanMill.BAD);
        desk.same("again 8 up to the end", mill.again(3, 8), 32768);
        desk.same("again 1 at the end", mill.again(3, 1), RescanMill.FULL);
        desk.same("again all at the end", mill.again(0, 32768), RescanMill.FULL);
        desk.same("clear() behind FULL", mill.clear(), 32768);
        desk.same("again(0, 1) behind clear()", mill.again(0, 1), RescanMill.BAD);
        desk.end();
    }
}
