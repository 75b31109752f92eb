/** The sentences of promise 3. */
public final class EdgeAgainTest {
    private static final int MOST = 32768;

    private static void comesOnceMore(Desk desk, int from, int n, String due) {
        Mill mill = Desk.fed("abcde");
        desk.same("again(" + from + ", " + n + ")", mill.again(from, n), 5 + n);
        mill.run(Desk.MUCH);
        desk.same("what again(" + from + ", " + n + ") put there", mill.out(), "abcde" + due);
    }

    private static void behindTheText(Desk desk) {
        desk.about("Of the text the bytes from one on, n of them, come once more behind it: how many it has.");
        comesOnceMore(desk, 0, 1, "a");
        comesOnceMore(desk, 0, 5, "abcde");
        comesOnceMore(desk, 1, 4, "bcde");
        comesOnceMore(desk, 2, 2, "cd");
        comesOnceMore(desk, 4, 1, "e");
        Mill mill = Desk.fed("ab");
        mill.again(1, 1);
        desk.same("again of what came again", mill.again(1, 2), 5);
        mill.run(Desk.MUCH);
        desk.same("what came again twice", mill.out(), "abbbb");
    }

    private static void bad(Desk desk, int from, int n) {
        Mill mill = Desk.fed("abcde");
        desk.same("again(" + from + ", " + n + ")", mill.again(from, n), RescanMill.BAD);
        desk.same("clear() behind it", mill.clear(), 5);
    }

    private static void notAllThere(Desk desk) {
        desk.about("BAD: they are not all there");
        int[][] pairs = {{5, 1}, {4, 2}, {0, 6}, {1, 5}, {6, 1}, {-1, 1}, {-1, 5}, {-5, 1}, {-1, 6},
            {Integer.MAX_VALUE, 1}, {1, Integer.MAX_VALUE}, {Integer.MAX_VALUE, Integer.MAX_VALUE}, {MOST, 1},
            {Integer.MIN_VALUE, 1}, {Integer.MIN_VALUE, Integer.MAX_VALUE}, {0, MOST}, {0, MOST + 1}};
        for (int[] pair : pairs) {
            bad(desk, pair[0], pair[1]);
        }
        desk.same("again(0, 1) of an empty text", new Mill().again(0, 1), RescanMill.BAD);
        Mill mill = Desk.fed("abcde");
        mill.clear();
        desk.same("again(0, 1) behind clear()", mill.again(0, 1), RescanMill.BAD);
        desk.same("again beyond the end of a full text", Desk.fed("x".repeat(MOST)).again(MOST, 1), RescanMill.BAD);
    }

    private static void belowOne(Desk desk) {
        desk.about("or n is below 1");
        int[][] pairs = {{0, 0}, {0, -1}, {2, 0}, {5, 0}, {5, -1}, {5, -5}, {0, Integer.MIN_VALUE},
            {Integer.MAX_VALUE, Integer.MIN_VALUE}, {Integer.MIN_VALUE, Integer.MIN_VALUE}};
        for (int[] pair : pairs) {
            bad(desk, pair[0], pair[1]);
        }
        desk.same("again(0, 0) of a full text", Desk.fed("x".repeat(MOST)).again(0, 0), RescanMill.BAD);
    }

    private static void full(Desk desk) {
        desk.about("BAD: they are not all there, or n is below 1; FULL.");
        desk.same("again(0, 16384) of 16384", Desk.fed("x".repeat(MOST / 2)).again(0, MOST / 2), MOST);
        Mill mill = Desk.fed("abc" + "x".repeat(MOST - 7));
        desk.same("again(0, 5) of four places", mill.again(0, 5), RescanMill.FULL);
        mill.run(Desk.MUCH);
        desk.same("size() of what was there", mill.size(), MOST - 4);
        desk.same("again(0, 4) of four places", mill.again(0, 4), MOST);
        desk.same("again(0, 1) of no place", mill.again(0, 1), RescanMill.FULL);
        desk.same("again(32767, 1) of no place", mill.again(MOST - 1, 1), RescanMill.FULL);
        desk.same("again(0, 32768) of no place", mill.again(0, MOST), RescanMill.FULL);
        mill.run(Desk.MUCH);
        desk.same("the end of the full text", mill.word(MOST / 8 - 1), 0x7863626178787878L);
        desk.same("clear()", mill.clear(), MOST);
    }

    public static void main(String[] args) {
        Desk desk = new Desk("Promise 3: again");
        behindTheText(desk);
        notAllThere(desk);
        belowOne(desk);
        full(desk);
        desk.end();
    }
}
