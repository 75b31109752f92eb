/** The sentences of promise 8. */
public final class EdgeWordTest {
    private static void eightBytes(Desk desk) {
        desk.about("Eight bytes of the out, from 8 i on, the first one lowest");
        Mill mill = Desk.fed("abcdefghijklmnop\u0080\u00ff\0\u007f\u0001\n \u00fe");
        mill.run(24);
        desk.same("word(0)", mill.word(0), 0x6867666564636261L);
        desk.same("word(1)", mill.word(1), 0x706f6e6d6c6b6a69L);
        desk.same("word(2)", mill.word(2), 0xfe200a017f00ff80L);
        for (int n : new int[] {1, 7, 8, 9, 15, 16, 17, 32767, 32768}) {
            String letters = "abcdefghijklm".repeat(n / 13 + 1).substring(0, n);
            desk.gives(letters, letters);
        }
    }

    private static void behindItsEnd(Desk desk) {
        desk.about("0 behind its end");
        for (int n = 1; n <= 9; n++) {
            Mill mill = Desk.fed("\u00ff".repeat(n));
            mill.run(n);
            desk.same("word(0) of " + n, mill.word(0), n >= 8 ? -1L : (1L << (8 * n)) - 1);
            desk.same("word(1) of " + n, mill.word(1), n == 9 ? 255 : 0);
        }
        Mill mill = Desk.fed("\u00ff".repeat(32));
        mill.run(32);
        mill.clear();
        mill.feedText("a");
        mill.run(1);
        desk.same("word(0) of a short out behind a long one", mill.word(0), 'a');
        desk.same("word(1) of a short out behind a long one", mill.word(1), 0);
    }

    private static void none(Desk desk) {
        desk.about("0 when there are none.");
        int[] outside = {2, 3, 100, 4095, 4096, 4097, 1 << 20, 1 << 28, 1 << 29, (1 << 29) + 1, 1 << 30,
            Integer.MAX_VALUE, -1, -2, -4096, -(1 << 28), -(1 << 29), -(1 << 30), Integer.MIN_VALUE, Integer.MIN_VALUE + 1};
        Mill mill = Desk.fed("abcdefghij");
        desk.same("word(0) before any run", mill.word(0), 0);
        mill.run(10);
        for (int i : outside) {
            desk.same("word(" + i + ") of ten", mill.word(i), 0);
            desk.same("word(" + i + ") of a new object", new Mill().word(i), 0);
        }
        mill.run(9);
        desk.same("word(0) after an error", mill.word(0), 0);
        desk.same("word(1) after an error", mill.word(1), 0);
        mill = Desk.fed("x".repeat(32768));
        mill.run(32768);
        desk.same("the last word of the longest out", mill.word(4095), 0x7878787878787878L);
        desk.same("a word behind the longest out", mill.word(4096), 0);
        desk.same("a word before the longest out", mill.word(-1), 0);
        desk.same("a word far behind the longest out", mill.word(1 << 29), 0);
    }

    public static void main(String[] args) {
        Desk desk = new Desk("Promise 8: word");
        eightBytes(desk);
        behindItsEnd(desk);
        none(desk);
        desk.end();
    }
}
