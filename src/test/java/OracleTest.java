import java.util.Random;

/** Texts made at random (always the same ones), each run by the class and by PlainMill. */
public final class OracleTest {
    private static final String[] NAMES = {"a", "b", "c", "f", "g", "_x", "y1", "define", "pushdef", "undefine",
        "popdef", "ifdef", "ifelse", "eval", "incr", "decr", "len", "index", "substr", "shift", "dnl", "divert",
        "undivert", "changequote"};
    private static final String[] SIGNS = {"|", "||", "&", "&&", "^", "==", "!=", "<", ">", "<=", ">=", "<<", ">>",
        "+", "-", "*", "/", "%", "~", "!", " ", "\n", "=", "1x"};
    private static final String[] MARKS = {"$0", "$1", "$2", "$3", "$9", "$#", "$*", "$@", "$$", "$", "$a", "$10"};
    private static final String[] SPACES = {" ", "\n", "\t", "\u000b", "\f", "\r", "  ", " \n "};
    private static final String[] QUOTES = {"`", "'", "[", "]", "<<", ">>", "\"", "<", "||||", "$", "-", "\u00e4"};

    /** With this many bytes to be fed by eights, an object has calls left for its runs. */
    private static final int LONGEST = 2400;
    /** What one text needs at most, but for feeding it and reading a long out. */
    private static final int CALLS_KEPT = 100;

    private final Random random;
    private String opening = "`";
    private String closing = "'";

    private OracleTest(long seed) {
        random = new Random(seed);
    }

    private String one(String[] of) {
        return of[random.nextInt(of.length)];
    }

    private boolean rarely(int of) {
        return random.nextInt(of) == 0;
    }

    private String expression(int deep) {
        if (deep == 0 || rarely(3)) {
            return rarely(60) ? one(SIGNS) : String.valueOf(rarely(4) ? random.nextInt(1010000000) : random.nextInt(40));
        }
        switch (random.nextInt(5)) {
            case 0:
                return "(" + expression(deep - 1) + ")";
            case 1:
                return "-+~!".charAt(random.nextInt(4)) + expression(deep - 1);
            default:
                return expression(deep - 1) + SIGNS[random.nextInt(rarely(30) ? SIGNS.length : 18)] + expression(deep - 1);
        }
    }

    private String quoted(int deep) {
        return opening + pieces(deep, 3) + (rarely(300) ? "" : closing);
    }

    private String number() {
        return rarely(50) ? pieces(0, 2) : (rarely(4) ? "-" : "") + random.nextInt(rarely(40) ? 2000000000 : rarely(30) ? 11 : 10);
    }

    private String call(int deep) {
        String name = one(NAMES);
        if (name.equals("changequote") && !rarely(9)) {
            String first = one(QUOTES);
            String second = one(QUOTES);
            String all = name + "(" + opening + first + closing + "," + opening + second + closing + ")";
            opening = first;
            closing = second;
            return all;
        }
        if (name.equals("eval")) {
            return name + "(" + expression(4) + ")";
        }
        if (rarely(6)) {
            return name;
        }
        StringBuilder all = new StringBuilder(name).append("(");
        int n = random.nextInt(rarely(5) ? 12 : 4);
        for (int i = 0; i < n; i++) {
            all.append(i > 0 ? "," : "").append(rarely(4) ? one(SPACES) : "");
            if (i == 0 && name.matches("define|pushdef|undefine|popdef|ifdef") && !rarely(60)) {
                all.append(opening).append(one(NAMES)).append(closing);
            } else if (name.matches("incr|decr|divert|undivert") || name.equals("substr") && i > 0) {
                all.append(number());
            } else {
                all.append(rarely(2) ? quoted(deep - 1) : pieces(deep - 1, 2));
            }
        }
        return all.append(rarely(300) ? "" : ")").toString();
    }

    private String piece(int deep) {
        switch (random.nextInt(deep > 0 ? 14 : 8)) {
            case 0:
                return one(NAMES);
            case 1:
                return one(SPACES);
            case 2:
                return one(MARKS);
            case 3:
                return String.valueOf(random.nextInt(100));
            case 4:
                return rarely(4) ? "#" + one(NAMES) + "(" + (rarely(2) ? "\n" : "") : rarely(12) ? one(QUOTES) : "(a)";
            case 5:
                return rarely(5) ? String.valueOf((char) random.nextInt(256)) : "x";
            case 6:
                return rarely(3) ? "(" + one(NAMES) + ",)" : ",";
            case 7:
                return rarely(9) ? ")" : "z";
            case 8:
            case 9:
                return quoted(deep - 1);
            default:
                return call(deep);
        }
    }

    private String pieces(int deep, int most) {
        StringBuilder all = new StringBuilder();
        int n = random.nextInt(most + 1);
        for (int i = 0; i < n; i++) {
            all.append(piece(Math.max(deep, 0)));
        }
        return all.toString();
    }

    private static void compare(Desk desk, Mill mill, String text, int fuel) {
        PlainMill plain = new PlainMill(text, fuel);
        String what = "the run with " + fuel + " of " + text;
        desk.same(what, mill.run(fuel), plain.error);
        desk.same("told(0) after " + what, mill.told(0), plain.line);
        desk.same("told(1) after " + what, mill.told(1), plain.taken);
        desk.same("told(2) after " + what, mill.told(2), plain.meanings);
        desk.same("told(3) after " + what, mill.told(3), plain.meaningBytes);
        desk.sameOut(mill, text, fuel, plain.out);
    }

    public static void main(String[] args) {
        Desk desk = new Desk();
        int texts = args.length > 0 ? Integer.parseInt(args[0]) : 20000;
        int firstSeed = args.length > 1 ? Integer.parseInt(args[1]) : 0;
        Mill mill = new Mill();
        int[] errors = new int[41];
        for (int seed = firstSeed; seed < firstSeed + texts; seed++) {
            OracleTest maker = new OracleTest(seed);
            String text = maker.pieces(3, 30);
            text = text.length() > LONGEST ? text.substring(0, LONGEST) : text;
            if (mill.left() < CALLS_KEPT + text.length() / 8) {
                mill = new Mill();
            }
            mill.clear();
            mill.feedText(text);
            compare(desk, mill, text, 1 + maker.random.nextInt(200));
            errors[Math.max(mill.run(3000), 0)]++;
            compare(desk, mill, text, 3000);
        }
        StringBuilder seen = new StringBuilder("runs by error:");
        for (int i = 0; i <= 40; i++) {
            if (errors[i] > 0) {
                seen.append(" ").append(i).append(": ").append(errors[i]);
            }
        }
        System.out.println(seen);
        desk.end();
    }
}
