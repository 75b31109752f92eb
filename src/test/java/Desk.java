import java.io.IOException;
import java.nio.charset.StandardCharsets;
import java.nio.file.Files;
import java.nio.file.Path;

/** What the tests share: it compares answers, and counts those that are not the ones due. */
final class Desk {
    static final int MUCH = 400000;
    /** Calls that stay for a test to make on the object that it is given back. */
    private static final int KEPT = 16;

    private final String document = readDocument();
    private final String place;
    private String sentence = "";
    private int sentences;
    private int seenBefore;
    private int wrong;
    private int seen;

    Desk() {
        this("");
    }

    /** A desk for the sentences of one place of the document. */
    Desk(String place) {
        this.place = place;
        checkWords(place);
    }

    /** The document's words in one line, or nothing if nobody told where it is. */
    private static String readDocument() {
        Path path = Path.of(System.getProperty("document", "no document"));
        if (!Files.isRegularFile(path)) {
            return "";
        }
        try {
            return oneLine(Files.readString(path, StandardCharsets.UTF_8));
        } catch (IOException unread) {
            return "";
        }
    }

    private static String oneLine(String text) {
        return text.replaceAll("\\s+", " ").trim();
    }

    /** What is compared from here on is a test of this sentence, which must be the document's own words. */
    void about(String words) {
        endSentence();
        sentence = place + ", \"" + words + "\": ";
        sentences++;
        checkWords(words);
    }

    private void checkWords(String words) {
        if (!document.isEmpty() && !document.contains(oneLine(words))) {
            wrong("these are not the document's words: " + words);
        }
    }

    private void endSentence() {
        if (sentences > 0 && seen == seenBefore) {
            wrong(sentence + "nothing was compared");
        }
        seenBefore = seen;
    }

    private void wrong(String told) {
        wrong++;
        System.out.println(told);
    }

    void same(String what, long got, long want) {
        seen++;
        if (got != want) {
            wrong(sentence + what + " answered " + got + ", due is " + want);
        }
    }

    void same(String what, String got, String want) {
        seen++;
        if (!got.equals(want)) {
            wrong(sentence + what + " gave <" + cut(got) + ">, due is <" + cut(want) + ">");
        }
    }

    private static String cut(String text) {
        String shown = text.replace("\n", "\\n").replace("\0", "\\0");
        return shown.length() > 200 ? shown.substring(0, 200) + ".. (" + text.length() + ")" : shown;
    }

    static Mill fed(String text) {
        Mill mill = new Mill();
        mill.feedText(text);
        return mill;
    }

    /** A run without an error, and what comes out. */
    Mill gives(String text, String out) {
        Mill mill = fed(text);
        same("run of " + cut(text), mill.run(MUCH), 0);
        same("told(0) of " + cut(text), mill.told(0), 0);
        sameOut(mill, text, MUCH, out);
        return mill;
    }

    /** The whole out and a word behind it; a long one needs further objects, which are fed and run alike. */
    void sameOut(Mill first, String text, int fuel, String want) {
        same("size() of " + cut(text), first.size(), want.length());
        Mill mill = first;
        StringBuilder got = new StringBuilder();
        for (int i = 0; 8 * i < want.length() + 8; i++) {
            if (mill.left() <= KEPT) {
                mill = fed(text);
                mill.run(fuel);
            }
            long eight = mill.word(i);
            for (int k = 0; k < 8; k++) {
                got.append((char) (eight >>> (8 * k) & 255));
            }
        }
        same("the out of " + cut(text), got.toString(), want + "\0".repeat(got.length() - want.length()));
    }

    /** A run with an error, its line, and how many bytes it took. */
    Mill fails(String text, int error, int line, int taken) {
        Mill mill = fed(text);
        same("run of " + cut(text), mill.run(MUCH), error);
        same("told(0) of " + cut(text), mill.told(0), line);
        same("told(1) of " + cut(text), mill.told(1), taken);
        same("size() of " + cut(text), mill.size(), 0);
        same("word(0) of " + cut(text), mill.word(0), 0);
        return mill;
    }

    /** The same, all of the text and nothing else having been taken. */
    Mill fails(String text, int error, int line) {
        return fails(text, error, line, text.length());
    }

    void end() {
        endSentence();
        String tested = sentences > 0 ? "sentences tested: " + sentences + "; " : "";
        System.out.println(tested + seen + " answers compared, " + wrong + " wrong");
        if (wrong > 0 || seen == 0) {
            System.exit(1);
        }
    }
}
