import java.util.ArrayList;
import java.util.HashMap;
import java.util.List;
import java.util.Map;

/**
 * The document told once more, with strings, maps and methods that call themselves, so that the class can be
 * compared with something that was written in another way. It is not made for long texts.
 */
final class PlainMill {
    static final class Wrong extends RuntimeException {
        private static final long serialVersionUID = 1L;
        final int number;
        final int line;

        Wrong(int number, int line) {
            super(null, null, false, false);
            this.number = number;
            this.line = line;
        }
    }

    private static final List<String> STARRED = List.of("define", "pushdef", "undefine", "popdef", "ifdef", "ifelse",
            "eval", "incr", "decr", "len", "index", "substr", "shift");
    private static final List<String> OTHERS = List.of("dnl", "divert", "undivert", "changequote");
    private static final String BUILT_IN = "\0built in ";

    private final String text;
    private final int fuel;
    private String back = "";
    private int textAt;
    private int lineFeeds;
    private String opening = "`";
    private String closing = "'";
    private final Map<String, ArrayList<String>> piles = new HashMap<>();
    private final StringBuilder[] diversions = new StringBuilder[10];
    private int current;
    private int open;
    private int heldBytes;
    private int heldArguments;

    int error;
    int line;
    int taken;
    int meanings;
    int meaningBytes;
    String out = "";

    PlainMill(String text, int fuel) {
        this.text = text;
        this.fuel = fuel;
        for (int i = 0; i < 10; i++) {
            diversions[i] = new StringBuilder();
        }
        for (String name : STARRED) {
            pile(name).add(BUILT_IN + name);
        }
        for (String name : OTHERS) {
            pile(name).add(BUILT_IN + name);
        }
        try {
            for (String[] token = token(); token != null; token = token()) {
                if (!callIfMacro(token)) {
                    putOut(token[1]);
                }
            }
            for (StringBuilder diversion : diversions) {
                out += diversion;
            }
        } catch (Wrong wrong) {
            error = wrong.number;
            line = wrong.line;
        }
        count();
    }

    private ArrayList<String> pile(String name) {
        return piles.computeIfAbsent(name, n -> new ArrayList<>());
    }

    private String top(String name) {
        ArrayList<String> pile = piles.get(name);
        return pile == null || pile.isEmpty() ? null : pile.get(pile.size() - 1);
    }

    private void count() {
        meanings = 0;
        meaningBytes = 0;
        for (Map.Entry<String, ArrayList<String>> entry : piles.entrySet()) {
            for (String meaning : entry.getValue()) {
                if (!meaning.startsWith(BUILT_IN)) {
                    meanings++;
                    meaningBytes += entry.getKey().length() + meaning.length();
                }
            }
        }
    }

    private Wrong wrong(int number) {
        return new Wrong(number, 1 + lineFeeds);
    }

    private String rest() {
        return back + text.substring(textAt);
    }

    private boolean atEnd() {
        return back.isEmpty() && textAt == text.length();
    }

    private boolean next(String what) {
        int n = Math.min(what.length(), back.length());
        return back.startsWith(what.substring(0, n)) && text.startsWith(what.substring(n), textAt);
    }

    private char peek() {
        return back.isEmpty() ? text.charAt(textAt) : back.charAt(0);
    }

    private String take(int n) {
        StringBuilder got = new StringBuilder();
        for (int k = 0; k < n; k++) {
            if (taken == fuel) {
                throw wrong(31);
            }
            taken++;
            if (!back.isEmpty()) {
                got.append(back.charAt(0));
                back = back.substring(1);
            } else {
                char c = text.charAt(textAt++);
                lineFeeds += c == '\n' ? 1 : 0;
                got.append(c);
            }
        }
        return got.toString();
    }

    private void putBack(String what) {
        if (rest().length() + what.length() > 32768) {
            throw wrong(40);
        }
        back = what + back;
    }

    private void putOut(String what) {
        if (current < 0) {
            return;
        }
        int all = what.length();
        for (StringBuilder diversion : diversions) {
            all += diversion.length();
        }
        if (all > 32768) {
            throw wrong(40);
        }
        diversions[current].append(what);
    }

    /** The kind (q, c, n or b) and the text of a token. */
    private String[] token() {
        if (atEnd()) {
            return null;
        }
        if (next(opening)) {
            return new String[] {"q", quoted()};
        }
        if (peek() == '#') {
            StringBuilder remark = new StringBuilder();
            boolean ended = false;
            while (!ended && !atEnd()) {
                ended = peek() == '\n';
                remark.append(take(1));
            }
            return new String[] {"c", remark.toString()};
        }
        if (String.valueOf(peek()).matches("[A-Za-z_]")) {
            StringBuilder name = new StringBuilder();
            while (!atEnd() && String.valueOf(peek()).matches("[A-Za-z_0-9]")) {
                name.append(take(1));
            }
            return new String[] {"n", name.toString()};
        }
        return new String[] {"b", take(1)};
    }

    private String quoted() {
        int openingLine = 1 + lineFeeds;
        take(opening.length());
        StringBuilder between = new StringBuilder();
        int depth = 1;
        while (true) {
            if (atEnd()) {
                throw new Wrong(32, openingLine);
            }
            if (next(closing)) {
                String sign = take(closing.length());
                if (--depth == 0) {
                    return between.toString();
                }
                between.append(sign);
            } else if (next(opening)) {
                depth++;
                between.append(take(opening.length()));
            } else {
                between.append(take(1));
            }
        }
    }

    private void hold(int bytes) {
        if (heldBytes + bytes > 16384) {
            throw wrong(40);
        }
        heldBytes += bytes;
    }

    private void holdArgument() {
        if (heldArguments + 1 > 8192) {
            throw wrong(40);
        }
        heldArguments++;
    }

    private boolean callIfMacro(String[] token) {
        String name = token[1];
        if (!token[0].equals("n") || top(name) == null) {
            return false;
        }
        boolean withArguments = !atEnd() && peek() == '(';
        if (!withArguments && top(name).startsWith(BUILT_IN) && STARRED.contains(name)) {
            return false;
        }
        if (open == 50) {
            throw wrong(34);
        }
        int bytesBefore = heldBytes;
        int argumentsBefore = heldArguments;
        open++;
        hold(name.length());
        List<String> arguments = withArguments ? arguments() : new ArrayList<>();
        String meaning = top(name);
        String result = "";
        if (meaning != null) {
            result = meaning.startsWith(BUILT_IN) ? builtIn(name, arguments) : expand(name, meaning, arguments);
        }
        open--;
        heldBytes = bytesBefore;
        heldArguments = argumentsBefore;
        putBack(result);
        return true;
    }

    private List<String> arguments() {
        take(1);
        List<String> arguments = new ArrayList<>();
        int depth = 0;
        StringBuilder argument = new StringBuilder();
        boolean came = false;
        holdArgument();
        while (true) {
            String[] token = token();
            if (token == null) {
                throw wrong(33);
            }
            String sign = token[0].equals("b") ? token[1] : "";
            if (callIfMacro(token)) {
                came = true;
                continue;
            }
            if (!came && sign.matches("[ \t\n\u000b\f\r]")) {
                continue;
            }
            if (depth == 0 && (sign.equals(")") || sign.equals(","))) {
                arguments.add(argument.toString());
                if (sign.equals(")")) {
                    return arguments;
                }
                holdArgument();
                argument = new StringBuilder();
                came = false;
                continue;
            }
            depth += sign.equals("(") ? 1 : sign.equals(")") ? -1 : 0;
            came = true;
            hold(token[1].length());
            argument.append(token[1]);
        }
    }

    private static String get(List<String> arguments, int i) {
        return i < arguments.size() ? arguments.get(i) : "";
    }

    private String inQuotes(List<String> arguments) {
        List<String> quotedOnes = new ArrayList<>();
        for (String argument : arguments) {
            quotedOnes.add(opening + argument + closing);
        }
        return String.join(",", quotedOnes);
    }

    private String expand(String name, String meaning, List<String> arguments) {
        StringBuilder result = new StringBuilder();
        int at = 0;
        while (at < meaning.length()) {
            String mark = meaning.charAt(at) == '$' && at + 1 < meaning.length() ? meaning.substring(at + 1, at + 2) : "";
            if (mark.equals("0")) {
                result.append(name);
            } else if (mark.matches("[1-9]")) {
                result.append(get(arguments, Integer.parseInt(mark) - 1));
            } else if (mark.equals("#")) {
                result.append(arguments.size());
            } else if (mark.equals("*")) {
                result.append(String.join(",", arguments));
            } else if (mark.equals("@")) {
                result.append(inQuotes(arguments));
            } else {
                result.append(meaning.charAt(at));
                at--;
            }
            at += 2;
        }
        return result.toString();
    }

    private int number(String argument) {
        if (argument.isEmpty()) {
            return 0;
        }
        if (!argument.matches("-?[0-9]{1,9}")) {
            throw wrong(36);
        }
        return Integer.parseInt(argument);
    }

    private String builtIn(String name, List<String> a) {
        switch (name) {
            case "define":
            case "pushdef":
                define(get(a, 0), get(a, 1), name.equals("pushdef"));
                return "";
            case "undefine":
                a.forEach(piles::remove);
                return "";
            case "popdef":
                for (String argument : a) {
                    if (top(argument) != null) {
                        pile(argument).remove(pile(argument).size() - 1);
                    }
                }
                return "";
            case "ifdef":
                return get(a, top(get(a, 0)) != null ? 1 : 2);
            case "ifelse":
                return ifelse(a);
            case "eval":
                return String.valueOf(new PlainExpression(get(a, 0)).value(1 + lineFeeds));
            case "incr":
                return String.valueOf(number(get(a, 0)) + 1);
            case "decr":
                return String.valueOf(number(get(a, 0)) - 1);
            case "len":
                return String.valueOf(get(a, 0).length());
            case "index":
                return String.valueOf(get(a, 0).indexOf(get(a, 1)));
            case "substr":
                return substr(a);
            case "shift":
                return a.size() < 2 ? "" : inQuotes(a.subList(1, a.size()));
            case "dnl":
                boolean ended = false;
                while (!ended && !atEnd()) {
                    ended = take(1).equals("\n");
                }
                return "";
            case "divert":
                int to = number(get(a, 0));
                if (to > 9) {
                    throw wrong(36);
                }
                current = Math.max(to, -1);
                return "";
            case "undivert":
                undivert(a);
                return "";
            default:
                changeQuotes(a);
                return "";
        }
    }

    private void define(String name, String meaning, boolean onTop) {
        if (!name.matches("[A-Za-z_][A-Za-z_0-9]*")) {
            throw wrong(35);
        }
        ArrayList<String> pile = pile(name);
        ArrayList<String> before = new ArrayList<>(pile);
        if (!onTop && !pile.isEmpty()) {
            pile.remove(pile.size() - 1);
        }
        pile.add(meaning);
        count();
        if (meanings > 300 || meaningBytes > 16384) {
            piles.put(name, before);
            throw wrong(40);
        }
    }

    private static String ifelse(List<String> a) {
        if (a.size() < 3) {
            return "";
        }
        if (a.get(0).equals(a.get(1))) {
            return a.get(2);
        }
        if (a.size() == 4 || a.size() == 5) {
            return a.get(3);
        }
        return ifelse(a.subList(3, a.size()));
    }

    private String substr(List<String> a) {
        String whole = get(a, 0);
        int from = number(get(a, 1));
        int most = a.size() > 2 ? number(a.get(2)) : whole.length();
        if (from < 0 || from > whole.length() || most < 0) {
            return "";
        }
        return whole.substring(from, Math.min(whole.length(), from + most));
    }

    private void undivert(List<String> a) {
        List<Integer> which = new ArrayList<>();
        if (a.isEmpty() || a.size() == 1 && a.get(0).isEmpty()) {
            for (int i = 1; i < 10; i++) {
                which.add(i);
            }
        } else {
            for (String argument : a) {
                which.add(number(argument));
            }
        }
        for (int i : which) {
            if (i >= 1 && i <= 9 && i != current) {
                if (current >= 0) {
                    diversions[current].append(diversions[i]);
                }
                diversions[i].setLength(0);
            }
        }
    }

    private void changeQuotes(List<String> a) {
        if (a.isEmpty()) {
            opening = "`";
            closing = "'";
            return;
        }
        String fine = "(?s)[^A-Za-z_0-9 \t\u000b\f\r\n#(),]{1,4}";
        if (a.size() < 2 || !a.get(0).matches(fine) || !a.get(1).matches(fine)) {
            throw wrong(37);
        }
        opening = a.get(0);
        closing = a.get(1);
    }

    /** A method for each strength would do the same; here the strength is an argument. */
    private static final class PlainExpression {
        private static final String[][] STRENGTHS = {{"||"}, {"&&"}, {"|"}, {"^"}, {"&"}, {"==", "!="},
            {"<", ">", "<=", ">="}, {"<<", ">>"}, {"+", "-"}, {"*", "/", "%"}};
        private final List<String> signs = new ArrayList<>();
        private boolean none;
        private boolean byZero;
        private int at;

        PlainExpression(String source) {
            String rest = source;
            while (!rest.isEmpty() && !none) {
                String sign;
                if (rest.matches("(?s)[ \t\n\u000b\f\r].*")) {
                    rest = rest.substring(1);
                    continue;
                } else if (rest.matches("(?s)[0-9].*")) {
                    sign = rest.replaceAll("(?s)[^0-9].*", "");
                    none = sign.length() > 9;
                } else if (rest.matches("(?s)(\\|\\||&&|==|!=|<=|>=|<<|>>).*")) {
                    sign = rest.substring(0, 2);
                } else {
                    sign = rest.substring(0, 1);
                    none = "|^&<>+-*/%~!()".indexOf(sign) < 0;
                }
                signs.add(sign);
                rest = rest.substring(sign.length());
            }
        }

        int value(int line) {
            int value = none ? 0 : binary(0, 0);
            if (none || at < signs.size()) {
                throw new Wrong(38, line);
            }
            if (byZero) {
                throw new Wrong(39, line);
            }
            return value;
        }

        private String sign() {
            return at < signs.size() ? signs.get(at) : "";
        }

        private int binary(int strength, int nested) {
            if (strength == STRENGTHS.length) {
                return front(nested);
            }
            int value = binary(strength + 1, nested);
            while (!none && List.of(STRENGTHS[strength]).contains(sign())) {
                String sign = sign();
                at++;
                value = of(sign, value, binary(strength + 1, nested));
            }
            return value;
        }

        private int front(int nested) {
            String sign = sign();
            at++;
            if (none || sign.isEmpty()) {
                none = true;
                return 0;
            }
            if (sign.matches("[0-9]+")) {
                return Integer.parseInt(sign);
            }
            if (nested == 30 || !sign.matches("[-+~!(]")) {
                none = true;
                return 0;
            }
            int value = sign.equals("(") ? binary(0, nested + 1) : front(nested + 1);
            if (sign.equals("(")) {
                none |= !sign().equals(")");
                at++;
            }
            return sign.equals("-") ? -value : sign.equals("~") ? ~value
                    : sign.equals("!") ? (value == 0 ? 1 : 0) : value;
        }

        private int of(String sign, int a, int b) {
            switch (sign) {
                case "||": return a != 0 | b != 0 ? 1 : 0;
                case "&&": return a != 0 & b != 0 ? 1 : 0;
                case "|": return a | b;
                case "^": return a ^ b;
                case "&": return a & b;
                case "==": return a == b ? 1 : 0;
                case "!=": return a != b ? 1 : 0;
                case "<": return a < b ? 1 : 0;
                case ">": return a > b ? 1 : 0;
                case "<=": return a <= b ? 1 : 0;
                case ">=": return a >= b ? 1 : 0;
                case "<<": return a << b;
                case ">>": return a >> b;
                case "+": return a + b;
                case "-": return a - b;
                case "*": return a * b;
                default:
                    byZero |= b == 0;
                    return b == 0 ? 0 : sign.equals("/") ? a / b : a % b;
            }
        }
    }
}
