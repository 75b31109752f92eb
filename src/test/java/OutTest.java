/** Promises 7 and 8. */
public final class OutTest {
    public static void main(String[] args) {
        Desk desk = new Desk();
        Mill mill = Desk.fed("ABCDEFGHIJ\u00ff");
        desk.same("size() before a run", mill.size(), 0);
        desk.same("word(0) before a run", mill.word(0), 0);
        mill.run(Desk.MUCH);
        desk.same("size()", mill.size(), 11);
        desk.same("word(0)", mill.word(0), 0x4847464544434241L);
        desk.same("word(1)", mill.word(1), 0xff4a49L);
        int[] none = {2, 3, -1, 4095, 4096, 4097, 1 << 28, 1 << 29, 1 << 30, Integer.MAX_VALUE, Integer.MIN_VALUE,
            -(1 << 29), -(1 << 28)};
        for (int i : none) {
            desk.same("word(" + i + ")", mill.word(i), 0);
        }
        desk.same("run(0)", mill.run(0), RescanMill.BAD);
        desk.same("size() behind a run that is BAD", mill.size(), 11);
        desk.same("run(3)", mill.run(3), 31);
        desk.same("size() behind an error", mill.size(), 0);
        desk.same("word(0) behind an error", mill.word(0), 0);
        mill.run(11);
        desk.same("size() of a run that needs all fuel", mill.size(), 11);
        mill.clear();
        mill.feedText("12345678");
        desk.same("size() is of the latest run", mill.size(), 11);
        mill.run(8);
        desk.same("size() of a whole word", mill.size(), 8);
        desk.same("word(0) of a whole word", mill.word(0), 0x3837363534333231L);
        desk.same("word(1) behind a whole word", mill.word(1), 0);

        mill.again(0, 8);
        for (int had = 16; had < 32768; ) {
            had = mill.again(0, had);
        }
        mill.run(Desk.MUCH);
        desk.same("size() of the longest out", mill.size(), 32768);
        desk.same("word(4095) of the longest out", mill.word(4095), 0x3837363534333231L);
        desk.same("word(4096) of the longest out", mill.word(4096), 0);
        desk.end();
    }
}
