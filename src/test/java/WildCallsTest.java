import java.util.Random;

/** All 512 calls of an object, in any order and with any arguments: nothing is thrown, each answer is the one due. */
public final class WildCallsTest {
    private static final int[] EDGES = {Integer.MIN_VALUE, -1, 0, 1, 2, 7, 8, 9, 4095, 4096, 32767, 32768, 32769,
        399999, 400000, 400001, Integer.MAX_VALUE};
    private static final String[] FEEDS = {"define(", "pushdef(", "`a',`b$1", "')", "a(", "len(", "a b a\n", ",`',",
        "dnl x", "divert(", "1)", "2)", "undivert", "#a\n", "ifelse(", "eval(1", "+2)", "shift(", "incr(3)", ")", " "};

    private final Random random;
    private final Desk desk;
    private final Mill mill = new Mill();
    private String text = "";
    private PlainMill latest;

    private WildCallsTest(long seed, Desk desk) {
        random = new Random(seed);
        this.desk = desk;
    }

    private int any(int most) {
        return random.nextInt(4) == 0 ? EDGES[random.nextInt(EDGES.length)] : random.nextInt(most + 1);
    }

    private void feed() {
        String some = FEEDS[random.nextInt(FEEDS.length)];
        long eight = random.nextLong();
        int n = some.length();
        if (random.nextInt(9) == 0) {
            n = any(9);
        } else {
            for (int k = 0; k < Math.min(n, 8); k++) {
                eight = eight & ~(255L << (8 * k)) | (long) some.charAt(k) << (8 * k);
            }
            n = Math.min(n, 8);
        }
        int due = n < 1 || n > 8 ? -1 : text.length() + n > 32768 ? -3 : text.length() + n;
        desk.same("feed(" + eight + ", " + n + ")", mill.feed(eight, n), due);
        for (int k = 0; due > 0 && k < n; k++) {
            text += (char) (eight >>> (8 * k) & 255);
        }
    }

    private void again() {
        int from = any(text.length());
        int n = random.nextInt(3) == 0 ? text.length() - from : any(text.length());
        int due = n < 1 || from < 0 || (long) from + n > text.length() ? -1
                : text.length() + n > 32768 ? -3 : text.length() + n;
        desk.same("again(" + from + ", " + n + ")", mill.again(from, n), due);
        if (due > 0) {
            text += text.substring(from, from + n);
        }
    }

    private void run() {
        int fuel = random.nextInt(3) == 0 && text.length() < 300 ? any(400001) : any(500);
        boolean bad = fuel < 1 || fuel > 400000;
        latest = bad ? latest : new PlainMill(text, fuel);
        desk.same("run(" + fuel + ") of " + text, mill.run(fuel), bad ? -1 : latest.error);
        for (int k = 0; k < 3; k++) {
            ask();
        }
    }

    private void ask() {
        if (mill.left() < 3) {
            return;
        }
        int what = any(5);
        int[] told = latest == null ? new int[4]
                : new int[] {latest.line, latest.taken, latest.meanings, latest.meaningBytes};
        desk.same("told(" + what + ")", mill.told(what), what < 0 || what > 3 ? -1 : told[what]);
        String out = latest == null ? "" : latest.out;
        int i = any(out.length() / 8 + 1);
        desk.same("word(" + i + ")", mill.word(i), Mill.wordOf(out, i));
        desk.same("size()", mill.size(), out.length());
    }

    private void call() {
        switch (random.nextInt(20)) {
            case 0:
            case 1:
                again();
                break;
            case 2:
            case 3:
                run();
                break;
            case 4:
            case 5:
                ask();
                break;
            case 6:
                if (random.nextInt(3) == 0) {
                    desk.same("clear()", mill.clear(), text.length());
                    text = "";
                }
                break;
            default:
                feed();
                break;
        }
    }

    public static void main(String[] args) {
        Desk desk = new Desk();
        for (int seed = 0; seed < 150; seed++) {
            WildCallsTest wild = new WildCallsTest(seed, desk);
            while (wild.mill.left() > 0) {
                wild.call();
            }
        }
        desk.end();
    }
}
