/** Promise 2. */
public final class FeedTest {
    private static final long EIGHT = 0x6867666564636261L;

    private static Mill filled(int n) {
        Mill mill = new Mill();
        mill.feed(EIGHT, 8);
        for (int had = 8; had < n; ) {
            had = mill.again(0, Math.min(had, n - had));
        }
        return mill;
    }

    public static void main(String[] args) {
        Desk desk = new Desk();
        Mill mill = new Mill();
        int[] bad = {0, 9, -1, Integer.MIN_VALUE, Integer.MAX_VALUE};
        for (int n : bad) {
            desk.same("feed(.., " + n + ")", mill.feed(EIGHT, n), RescanMill.BAD);
        }
        int had = 0;
        for (int n = 1; n <= 8; n++) {
            had += n;
            desk.same("feed(.., " + n + ")", mill.feed(EIGHT, n), had);
        }
        mill.run(Desk.MUCH);
        desk.same("the order of bytes", mill.out(), "aababcabcdabcdeabcdefabcdefgabcdefgh");

        mill = new Mill();
        desk.same("feed(-1, 8)", mill.feed(-1L, 8), 8);
        desk.same("feed(128 << 8, 2)", mill.feed(128L << 8, 2), 10);
        mill.run(Desk.MUCH);
        desk.same("bytes of 255", mill.word(0), -1L);
        desk.same("bytes of 0 and 128", mill.word(1), 128L << 8);

        mill = filled(32761);
        desk.same("feed 8 beyond the end", mill.feed(EIGHT, 8), RescanMill.FULL);
        desk.same("feed BAD comes first", mill.feed(EIGHT, 9), RescanMill.BAD);
        desk.same("feed 7 up to the end", mill.feed(EIGHT, 7), 32768);
        desk.same("feed 1 at the end", mill.feed(EIGHT, 1), RescanMill.FULL);
        desk.same("run of the longest text", mill.run(Desk.MUCH), 0);
        desk.same("told(1) of the longest text", mill.told(1), 32768);
        desk.same("clear() behind FULL", mill.clear(), 32768);
        desk.end();
    }
}
