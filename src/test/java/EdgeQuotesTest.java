/** The sentences of promise 5 about changequote. */
public final class EdgeQuotesTest {
    private static void firstTwo(Desk desk) {
        desk.about("changequote: the quotes are its first two arguments (both must be there)");
        desk.gives("changequote([,])[len(a)]`len(a)'", "len(a)`1'");
        desk.gives("changequote([,],x,y)[len(a)]", "len(a)");
        desk.gives("changequote(`[',`]')[`len(a)']", "`len(a)'");
        desk.gives("changequote([,])changequote(<,>)<len(a)>[len(a)]", "len(a)[1]");
        desk.gives("changequote([,])changequote([`],['])`len(a)'", "len(a)");
        desk.fails("changequote()", 37, 1);
        desk.fails("changequote(`')", 37, 1);
        desk.fails("changequote([)", 37, 1);
        desk.fails("changequote(,)", 37, 1);
        desk.fails("changequote([,)", 37, 1);
        desk.fails("changequote(,])", 37, 1);
        desk.fails("changequote(,],])", 37, 1);
        desk.fails("changequote([,,])", 37, 1);
    }

    private static void ofTheBeginning(Desk desk) {
        desk.about("those of the beginning without (");
        desk.gives("changequote([,])changequote`len(a)'[len(a)]", "len(a)[1]");
        desk.gives("changequote`len(a)'", "len(a)");
        desk.gives("changequote(<<<<,>>>>)<<<<a>>>>changequote`b'<<<<c>>>>", "ab<<<<c>>>>");
        desk.gives("changequote([,])changequote `len(a)'", " len(a)");
        desk.gives("changequote([,])define([c],[changequote])c`len(a)'", "len(a)");
    }

    private static void lengths(Desk desk) {
        desk.about("each has 1 to 4 bytes");
        for (int n = 0; n <= 6; n++) {
            String opening = "<".repeat(n);
            String closing = ">".repeat(n);
            if (n >= 1 && n <= 4) {
                desk.gives("changequote(" + opening + ",])" + opening + "len(a)]", "len(a)");
                desk.gives("changequote([," + closing + ")[len(a)" + closing, "len(a)");
                desk.gives("changequote(" + opening + "," + closing + ")" + opening + "len(a)" + closing, "len(a)");
            } else {
                desk.fails("changequote(" + opening + ",])", 37, 1);
                desk.fails("changequote([," + closing + ")", 37, 1);
                desk.fails("changequote(" + opening + "," + closing + ")", 37, 1);
            }
        }
        desk.fails("\nchangequote(<<<<<,\n])\n", 37, 3, 22);
    }

    private static boolean isForbidden(char b) {
        return b >= 'A' && b <= 'Z' || b >= 'a' && b <= 'z' || b >= '0' && b <= '9' || "_ \t\u000b\f\r\n#(),".indexOf(b) >= 0;
    }

    /** Quotes that do not have this byte in them, so that it can stand between. */
    private static String between(char b, String text) {
        return b == '`' || b == '\'' ? "changequote({,})" + text : text.replace('{', '`').replace('}', '\'');
    }

    private static void kindsOfBytes(Desk desk) {
        desk.about("that are no letter, digit, blank, LF, 35, (, ) or comma: error 37 QUOTES");
        for (char b = 0; b < 256; b++) {
            if (b == '{' || b == '}') {
                continue;
            }
            String[] texts = {"changequote({" + b + "},~)", "changequote({" + b + "!},~)", "changequote({!!!" + b + "},~)",
                "changequote(~,{" + b + "})", "changequote(~,{" + b + "!})", "changequote(~,{!!!" + b + "})"};
            for (String text : texts) {
                Mill mill = Desk.fed(between(b, text));
                desk.same("run of " + text, mill.run(Desk.MUCH), isForbidden(b) ? 37 : 0);
                desk.same("told(0) of " + text, mill.told(0), !isForbidden(b) ? 0 : b == '\n' ? 2 : 1);
            }
            if (!isForbidden(b)) {
                desk.gives(between(b, "changequote({" + b + "},{!" + b + "!})") + b + "len(a)!" + b + "!", "len(a)");
            }
        }
        desk.gives("changequote({,})`'{len(a)}", "`'len(a)");
    }

    public static void main(String[] args) {
        Desk desk = new Desk("Promise 5: run");
        firstTwo(desk);
        ofTheBeginning(desk);
        lengths(desk);
        kindsOfBytes(desk);
        desk.end();
    }
}
