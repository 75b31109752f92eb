import java.nio.charset.StandardCharsets;

/** A RescanMill that counts its calls: the document promises nothing behind the 512th, so no test may go there. */
final class Mill {
    private static final int CALLS_MOST = 512;
    private static final int TEXT_MOST = 32768;
    /** Up to here a text is fed by eights, so that most tests do not need what comes again to be right. */
    private static final int PLAINLY_FED = 800;

    private final RescanMill mill = new RescanMill();
    private final StringBuilder text = new StringBuilder();
    private int calls;

    private RescanMill counted() {
        calls++;
        if (calls > CALLS_MOST) {
            throw new IllegalStateException("a test makes more than " + CALLS_MOST + " calls on one object");
        }
        return mill;
    }

    /** How many calls more the document promises answers for. */
    int left() {
        return CALLS_MOST - calls;
    }

    int feed(long bytes, int n) {
        int answer = counted().feed(bytes, n);
        for (int k = 0; answer > 0 && k < n; k++) {
            text.append((char) (bytes >>> (8 * k) & 255));
        }
        return answer;
    }

    int again(int from, int n) {
        int answer = counted().again(from, n);
        if (answer > 0) {
            text.append(text, from, from + n);
        }
        return answer;
    }

    int clear() {
        text.setLength(0);
        return counted().clear();
    }

    int run(int fuel) {
        return counted().run(fuel);
    }

    int told(int what) {
        return counted().told(what);
    }

    int size() {
        return counted().size();
    }

    long word(int i) {
        return counted().word(i);
    }

    /** A text of any length comes behind what is there. */
    void feedText(String more) {
        if (more.length() > TEXT_MOST - text.length()) {
            throw new IllegalStateException("a test feeds more than a text can have");
        }
        int at = 0;
        while (at < more.length()) {
            String rest = more.substring(at);
            int[] found = more.length() > PLAINLY_FED ? longestThere(rest) : new int[2];
            int n = Math.min(8, rest.length());
            if (found[1] > n) {
                n = found[1];
                again(found[0], n);
            } else {
                feed(wordOf(rest, 0), n);
            }
            at += n;
        }
    }

    /** Where in the text the longest beginning of the rest stands, and how long it is. */
    private int[] longestThere(String rest) {
        char[] all = (rest + '\uffff' + text).toCharArray();
        int[] same = new int[all.length];
        int[] found = new int[2];
        int from = 0;
        int behind = 0;
        for (int i = 1; i < all.length; i++) {
            int n = i < behind ? Math.min(same[i - from], behind - i) : 0;
            while (i + n < all.length && all[n] == all[i + n]) {
                n++;
            }
            same[i] = n;
            if (i + n > behind) {
                from = i;
                behind = i + n;
            }
            if (i > rest.length() && n > found[1]) {
                found[0] = i - rest.length() - 1;
                found[1] = n;
            }
        }
        return found;
    }

    /** All of the out, which is to be short. */
    String out() {
        StringBuilder out = new StringBuilder();
        int size = size();
        long eight = 0;
        for (int i = 0; i < size; i++) {
            eight = i % 8 == 0 ? word(i / 8) : eight >>> 8;
            out.append((char) (eight & 255));
        }
        return out.toString();
    }

    /** Eight bytes of a text, as the document's word(i) tells them. */
    static long wordOf(String text, int i) {
        byte[] bytes = text.getBytes(StandardCharsets.ISO_8859_1);
        long eight = 0;
        for (int k = 0; k < 8; k++) {
            long place = 8L * i + k;
            if (place >= 0 && place < bytes.length) {
                eight |= (bytes[(int) place] & 255L) << (8 * k);
            }
        }
        return eight;
    }
}
