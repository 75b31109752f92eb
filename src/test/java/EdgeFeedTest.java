/** The sentences of promise 2. */
public final class EdgeFeedTest {
    private static final int MOST = 32768;
    private static final long EIGHT = 0x6867666564636261L;
    private static final int[] NO_COUNTS = {0, 9, -1, 10, 16, 256, Integer.MIN_VALUE, Integer.MAX_VALUE};

    private static Mill filled(int n) {
        return Desk.fed("x".repeat(n));
    }

    private static void lowestFirst(Desk desk) {
        desk.about("The n lowest of eight bytes come behind the text, the lowest one first: how many it has.");
        for (int n = 1; n <= 8; n++) {
            Mill mill = Desk.fed("<");
            desk.same("feed(.., " + n + ")", mill.feed(EIGHT, n), 1 + n);
            mill.run(Desk.MUCH);
            desk.same("what feed(.., " + n + ") put there", mill.out(), "<" + "abcdefgh".substring(0, n));
        }
        Mill mill = new Mill();
        mill.feed(-1L, 8);
        mill.feed(Long.MIN_VALUE, 8);
        mill.feed(0, 1);
        mill.run(Desk.MUCH);
        desk.same("eight bytes of 255", mill.word(0), -1L);
        desk.same("seven bytes of 0 and one of 128", mill.word(1), Long.MIN_VALUE);
        desk.same("size() with a byte of 0 at the end", mill.size(), 17);
    }

    private static void bad(Desk desk) {
        desk.about("BAD: n is not 1 .. 8");
        for (int n : NO_COUNTS) {
            desk.same("feed(.., " + n + ") of an empty text", new Mill().feed(EIGHT, n), RescanMill.BAD);
            Mill mill = Desk.fed("abc");
            desk.same("feed(.., " + n + ")", mill.feed(EIGHT, n), RescanMill.BAD);
            desk.same("clear() behind feed(.., " + n + ")", mill.clear(), 3);
            desk.same("feed(.., " + n + ") of a full text", filled(MOST).feed(EIGHT, n), RescanMill.BAD);
        }
    }

    private static void full(Desk desk) {
        desk.about("BAD: n is not 1 .. 8; FULL.");
        for (int n = 1; n <= 8; n++) {
            desk.same("feed(.., " + n + ") up to the end", filled(MOST - n).feed(EIGHT, n), MOST);
            Mill mill = filled(MOST - n + 1);
            desk.same("feed(.., " + n + ") beyond the end", mill.feed(EIGHT, n), RescanMill.FULL);
            mill.run(Desk.MUCH);
            desk.same("size() of what was there", mill.size(), MOST - n + 1);
            desk.same("clear() behind FULL", mill.clear(), MOST - n + 1);
        }
        Mill mill = filled(MOST - 7);
        desk.same("feed(.., 8) of seven places", mill.feed(EIGHT, 8), RescanMill.FULL);
        desk.same("feed(.., 7) of seven places", mill.feed(EIGHT, 7), MOST);
        desk.same("feed(.., 1) of no place", mill.feed(EIGHT, 1), RescanMill.FULL);
    }

    private static void longestText(Desk desk) {
        desk.about("THE TEXT is a row of at most 32768 bytes.");
        Mill mill = filled(MOST - 8);
        mill.feed(EIGHT, 8);
        desk.same("run of the longest text", mill.run(MOST), 0);
        desk.same("told(1) of the longest text", mill.told(1), MOST);
        desk.same("its first bytes", mill.word(0), 0x7878787878787878L);
        desk.same("its last bytes", mill.word(MOST / 8 - 1), EIGHT);
        desk.same("clear()", mill.clear(), MOST);
        desk.same("feed behind clear()", mill.feed(EIGHT, 8), 8);
    }

    public static void main(String[] args) {
        Desk desk = new Desk("Promise 2: feed");
        lowestFirst(desk);
        bad(desk);
        full(desk);
        longestText(desk);
        desk.end();
    }
}
