import java.nio.charset.StandardCharsets;

/** What the tests share: it compares answers, and counts those that are not the ones due. */
final class Desk {
    static final int MUCH = 400000;

    private int wrong;
    private int seen;

    void same(String what, long got, long want) {
        seen++;
        if (got != want) {
            wrong++;
            System.out.println(what + " answered " + got + ", due is " + want);
        }
    }

    void same(String what, String got, String want) {
        seen++;
        if (!got.equals(want)) {
            wrong++;
            System.out.println(what + " gave <" + cut(got) + ">, due is <" + cut(want) + ">");
        }
    }

    private static String cut(String text) {
        String shown = text.replace("\n", "\\n");
        return shown.length() > 200 ? shown.substring(0, 200) + ".. (" + text.length() + ")" : shown;
    }

    static RescanMill fed(String text) {
        RescanMill mill = new RescanMill();
        feed(mill, text);
        return mill;
    }

    static void feed(RescanMill mill, String text) {
        byte[] bytes = text.getBytes(StandardCharsets.ISO_8859_1);
        for (int from = 0; from < bytes.length; from += 8) {
            long eight = 0;
            int n = Math.min(8, bytes.length - from);
            for (int k = 0; k < n; k++) {
                eight |= (bytes[from + k] & 255L) << (8 * k);
            }
            mill.feed(eight, n);
        }
    }

    static String outOf(RescanMill mill) {
        StringBuilder out = new StringBuilder();
        for (int i = 0; i < mill.size(); i++) {
            out.append((char) (mill.word(i / 8) >>> (8 * (i % 8)) & 255));
        }
        return out.toString();
    }

    /** A run without an error, and what comes out. */
    RescanMill gives(String text, String out) {
        RescanMill mill = fed(text);
        same("run of " + cut(text), mill.run(MUCH), 0);
        same("told(0) of " + cut(text), mill.told(0), 0);
        same("the out of " + cut(text), outOf(mill), out);
        return mill;
    }

    /** A run with an error, its line, and how many bytes it took. */
    RescanMill fails(String text, int error, int line, int taken) {
        RescanMill mill = fed(text);
        same("run of " + cut(text), mill.run(MUCH), error);
        same("told(0) of " + cut(text), mill.told(0), line);
        same("told(1) of " + cut(text), mill.told(1), taken);
        same("size() of " + cut(text), mill.size(), 0);
        same("word(0) of " + cut(text), mill.word(0), 0);
        return mill;
    }

    /** The same, all of the text and nothing else having been taken. */
    RescanMill fails(String text, int error, int line) {
        return fails(text, error, line, text.length());
    }

    void end() {
        System.out.println(seen + " answers compared, " + wrong + " wrong");
        if (wrong > 0 || seen == 0) {
            System.exit(1);
        }
    }
}
