/**
 * A macro processor over one text: names have piles of meanings, what a call gives is read again,
 * and what comes out goes to diversions. No run makes an object: every row is made with the mill.
 */
public final class RescanMill {
    public static final int BAD = -1, NONE = -2, FULL = -3;

    private static final int ERROR_FUEL = 31;
    private static final int ERROR_QUOTE = 32;
    private static final int ERROR_CALL = 33;
    private static final int ERROR_DEEP = 34;
    private static final int ERROR_NAME = 35;
    private static final int ERROR_NUMBER = 36;
    private static final int ERROR_QUOTES = 37;
    private static final int ERROR_EXPRESSION = 38;
    private static final int ERROR_DIVISION = 39;
    private static final int ERROR_ROOM = 40;

    private static final int FUEL_MOST = 400000;
    private static final int TEXT_MOST = 32768;
    private static final int INPUT_MOST = 32768;
    private static final int DIVERTED_MOST = 32768;
    private static final int HELD_MOST = 16384;
    private static final int ARGUMENTS_MOST = 8192;
    private static final int CALLS_MOST = 50;
    private static final int MEANINGS_MOST = 300;
    private static final int MEANING_BYTES_MOST = 16384;
    private static final int DIVERSIONS = 10;
    private static final int QUOTE_MOST = 4;
    private static final int DIGITS_MOST = 9;
    private static final int NESTED_MOST = 30;

    /** No number of nine digits is this one. */
    private static final int NOT_A_NUMBER = Integer.MIN_VALUE;

    private static final int LF = 10;
    private static final int REMARK = 35;

    private static final BuiltIn[] BUILT_INS = BuiltIn.values();
    private static final Operator[] OPERATORS = Operator.values();

    private final Bytes text = new Bytes(TEXT_MOST);
    private final Bytes out = new Bytes(DIVERTED_MOST);
    private final Bytes result = new Bytes(INPUT_MOST);
    private final Input input = new Input();
    private final Calls calls = new Calls();
    private final Meanings meanings = new Meanings();
    private final Diversions diversions = new Diversions();
    private final Expression expression = new Expression();
    /** What is looked for and is no longer than where it is looked for has at most half of all that is held. */
    private final int[] fallBack = new int[HELD_MOST / 2];
    private int errorLine;

    public RescanMill() {
    }

    public int feed(long bytes, int n) {
        if (n < 1 || n > 8) {
            return BAD;
        }
        if (n > TEXT_MOST - text.count) {
            return FULL;
        }
        for (int k = 0; k < n; k++) {
            text.add((int) (bytes >>> (8 * k)) & 255);
        }
        return text.count;
    }

    public int again(int from, int n) {
        if (n < 1 || from < 0 || n > text.count || from > text.count - n) {
            return BAD;
        }
        if (n > TEXT_MOST - text.count) {
            return FULL;
        }
        text.addPart(text, from, n);
        return text.count;
    }

    public int clear() {
        int had = text.count;
        text.cut(0);
        return had;
    }

    public int run(int fuel) {
        if (fuel < 1 || fuel > FUEL_MOST) {
            return BAD;
        }
        beginAnew(fuel);
        int error = input.readToken();
        // Each token takes a byte at least, so there are no more of them than fuel.
        for (int k = 0; k < FUEL_MOST && error == 0 && input.kind != Input.KIND_END; k++) {
            error = useToken();
            if (error == 0 && calls.complete) {
                error = finishCall();
            }
            if (error == 0) {
                error = input.readToken();
            }
        }
        if (error == 0 && calls.open > 0) {
            error = ERROR_CALL;
        }
        finish(error);
        return error;
    }

    public int told(int what) {
        switch (what) {
            case 0:
                return errorLine;
            case 1:
                return input.taken;
            case 2:
                return meanings.defined;
            case 3:
                return meanings.definedBytes;
            default:
                return BAD;
        }
    }

    public int size() {
        return out.count;
    }

    public long word(int i) {
        if (i < 0 || i > DIVERTED_MOST / 8) {
            return 0;
        }
        long eight = 0;
        for (int k = 0; k < 8; k++) {
            int b = out.at(8 * i + k);
            if (b > 0) {
                eight |= (long) b << (8 * k);
            }
        }
        return eight;
    }

    private void beginAnew(int fuel) {
        out.cut(0);
        input.begin(text, fuel);
        calls.forget();
        diversions.forget();
        meanings.forget();
        for (int i = 0; i < BUILT_INS.length; i++) {
            result.cut(0);
            result.addText(BUILT_INS[i].spelled);
            meanings.addBuiltIn(BUILT_INS[i], result);
        }
    }

    private void finish(int error) {
        if (error == 0) {
            errorLine = 0;
            diversions.gather(out);
        } else {
            errorLine = error == ERROR_QUOTE ? input.tokenLine : input.line();
        }
    }

    private int useToken() {
        if (input.kind == Input.KIND_NAME && isCalled()) {
            return openCall();
        }
        if (calls.open > 0) {
            return useInArgument();
        }
        return diversions.add(input.token) ? 0 : ERROR_ROOM;
    }

    private boolean isCalled() {
        Meaning meaning = meanings.find(input.token, 0, input.token.count);
        if (meaning == null) {
            return false;
        }
        return meaning.builtIn == null || !meaning.builtIn.starred || input.peek(0) == '(';
    }

    private int openCall() {
        calls.noteToken();
        if (calls.open >= CALLS_MOST) {
            return ERROR_DEEP;
        }
        if (!calls.begin(input.token)) {
            return ERROR_ROOM;
        }
        if (input.peek(0) != '(') {
            calls.complete = true;
            return 0;
        }
        if (input.take() < 0) {
            return ERROR_FUEL;
        }
        return calls.beginArgument() ? 0 : ERROR_ROOM;
    }

    private int useInArgument() {
        if (input.kind == Input.KIND_BYTE) {
            int b = input.token.at(0);
            if (isSpace(b) && !calls.hasToken()) {
                return 0;
            }
            if (b == ',' && calls.isOutermost()) {
                return calls.beginArgument() ? 0 : ERROR_ROOM;
            }
            if (b == '(') {
                calls.nest(1);
            } else if (b == ')') {
                calls.nest(-1);
                if (calls.complete) {
                    return 0;
                }
            }
        }
        calls.noteToken();
        return calls.hold(input.token) ? 0 : ERROR_ROOM;
    }

    private int finishCall() {
        result.cut(0);
        int error = 0;
        Meaning meaning = meanings.find(calls.held, calls.nameStart(), calls.nameLength());
        if (meaning != null) {
            if (meaning.builtIn == null) {
                expand(meaning.text);
            } else {
                error = useBuiltIn(meaning.builtIn);
            }
        }
        calls.end();
        if (error != 0) {
            return error;
        }
        return input.putBack(result) ? 0 : ERROR_ROOM;
    }

    private void expand(Chain body) {
        Cells cells = meanings.cells;
        int cell = body.first;
        for (int k = 0; k < body.count && !result.over; k++) {
            int b = cells.at(cell);
            cell = cells.behind(cell);
            if (b == '$' && k + 1 < body.count && addMarked(cells.at(cell))) {
                cell = cells.behind(cell);
                k++;
            } else {
                result.add(b);
            }
        }
    }

    private boolean addMarked(int mark) {
        if (mark == '0') {
            result.addPart(calls.held, calls.nameStart(), calls.nameLength());
        } else if (isDigit(mark)) {
            addArgument(mark - '1');
        } else if (mark == '#') {
            result.addNumber(calls.arguments());
        } else if (mark == '*' || mark == '@') {
            addArguments(0, mark == '@');
        } else {
            return false;
        }
        return true;
    }

    private void addArgument(int i) {
        result.addPart(calls.held, calls.start(i), calls.length(i));
    }

    private void addArguments(int first, boolean quoted) {
        for (int i = first; i < calls.arguments() && !result.over; i++) {
            if (i > first) {
                result.add(',');
            }
            if (quoted) {
                result.addPart(input.opening, 0, input.opening.count);
            }
            addArgument(i);
            if (quoted) {
                result.addPart(input.closing, 0, input.closing.count);
            }
        }
    }

    private int useBuiltIn(BuiltIn builtIn) {
        switch (builtIn) {
            case DEFINE:
                return define(false);
            case PUSHDEF:
                return define(true);
            case UNDEFINE:
                return takeMeanings(true);
            case POPDEF:
                return takeMeanings(false);
            case IFDEF:
                return chooseByMacro();
            case IFELSE:
                return chooseBySameness();
            case EVAL:
                return expression.evaluate(calls.held, calls.start(0), calls.length(0), result);
            case INCR:
                return addTo(1);
            case DECR:
                return addTo(-1);
            case LEN:
                result.addNumber(calls.length(0));
                return 0;
            case INDEX:
                result.addNumber(findPlace(calls.start(0), calls.length(0), calls.start(1), calls.length(1)));
                return 0;
            case SUBSTR:
                return cutOut();
            case SHIFT:
                addArguments(1, true);
                return 0;
            case DNL:
                return input.dropLine();
            case DIVERT:
                return divert();
            case UNDIVERT:
                return undivert();
            case CHANGEQUOTE:
                return changeQuotes();
            default:
                return 0;
        }
    }

    private int define(boolean onTop) {
        if (!isName(calls.start(0), calls.length(0))) {
            return ERROR_NAME;
        }
        return meanings.define(calls, onTop) ? 0 : ERROR_ROOM;
    }

    private boolean isName(int start, int length) {
        if (length < 1 || !isLetter(calls.held.at(start))) {
            return false;
        }
        for (int k = 1; k < length; k++) {
            if (!isNamePart(calls.held.at(start + k))) {
                return false;
            }
        }
        return true;
    }

    private int takeMeanings(boolean everyOne) {
        for (int i = 0; i < calls.arguments(); i++) {
            meanings.take(calls.held, calls.start(i), calls.length(i), everyOne);
        }
        return 0;
    }

    private int chooseByMacro() {
        Meaning meaning = meanings.find(calls.held, calls.start(0), calls.length(0));
        addArgument(meaning != null ? 1 : 2);
        return 0;
    }

    private int chooseBySameness() {
        int n = calls.arguments();
        for (int a = 0; a + 3 <= n; a += 3) {
            int more = n - a - 3;
            if (areSame(a, a + 1)) {
                addArgument(a + 2);
                return 0;
            }
            if (more == 1 || more == 2) {
                addArgument(a + 3);
                return 0;
            }
        }
        return 0;
    }

    private boolean areSame(int i, int j) {
        int n = calls.length(i);
        if (n != calls.length(j)) {
            return false;
        }
        int one = calls.start(i);
        int other = calls.start(j);
        for (int k = 0; k < n; k++) {
            if (calls.held.at(one + k) != calls.held.at(other + k)) {
                return false;
            }
        }
        return true;
    }

    private int addTo(int step) {
        int value = number(0);
        if (value == NOT_A_NUMBER) {
            return ERROR_NUMBER;
        }
        result.addNumber(value + step);
        return 0;
    }

    private int number(int i) {
        int at = calls.start(i);
        int end = at + calls.length(i);
        if (at == end) {
            return 0;
        }
        boolean below = calls.held.at(at) == '-';
        if (below) {
            at++;
        }
        if (at == end || end - at > DIGITS_MOST) {
            return NOT_A_NUMBER;
        }
        int value = 0;
        for (; at < end; at++) {
            int b = calls.held.at(at);
            if (!isDigit(b)) {
                return NOT_A_NUMBER;
            }
            value = value * 10 + (b - '0');
        }
        return below ? -value : value;
    }

    /** Never looks at a byte of the first argument twice: a search begun anew at each place could take hours. */
    private int findPlace(int start, int length, int soughtStart, int sought) {
        if (sought == 0) {
            return 0;
        }
        if (sought > length || sought > fallBack.length) {
            return -1;
        }
        fillFallBack(soughtStart, sought);
        int same = 0;
        for (int k = 0; k < length; k++) {
            same = extend(soughtStart, same, calls.held.at(start + k));
            if (same == sought) {
                return k + 1 - sought;
            }
        }
        return -1;
    }

    private void fillFallBack(int soughtStart, int sought) {
        fallBack[0] = 0;
        int same = 0;
        for (int k = 1; k < sought && k < fallBack.length; k++) {
            same = extend(soughtStart, same, calls.held.at(soughtStart + k));
            fallBack[k] = same;
        }
    }

    private int extend(int soughtStart, int same, int b) {
        int length = same;
        while (length > 0 && length <= fallBack.length && calls.held.at(soughtStart + length) != b) {
            length = Math.min(fallBack[length - 1], length - 1);
        }
        return calls.held.at(soughtStart + length) == b ? length + 1 : length;
    }

    private int cutOut() {
        int from = number(1);
        int most = calls.arguments() > 2 ? number(2) : HELD_MOST;
        if (from == NOT_A_NUMBER || most == NOT_A_NUMBER) {
            return ERROR_NUMBER;
        }
        int length = calls.length(0);
        if (from >= 0 && from < length && most > 0) {
            result.addPart(calls.held, calls.start(0) + from, Math.min(most, length - from));
        }
        return 0;
    }

    private int divert() {
        int value = number(0);
        if (value == NOT_A_NUMBER || value >= DIVERSIONS) {
            return ERROR_NUMBER;
        }
        diversions.current = value < 0 ? Diversions.NOWHERE : value;
        return 0;
    }

    private int undivert() {
        int n = calls.arguments();
        if (n == 0 || n == 1 && calls.length(0) == 0) {
            for (int i = 1; i < DIVERSIONS; i++) {
                diversions.bring(i);
            }
            return 0;
        }
        for (int i = 0; i < n; i++) {
            int value = number(i);
            if (value == NOT_A_NUMBER) {
                return ERROR_NUMBER;
            }
            diversions.bring(value);
        }
        return 0;
    }

    private int changeQuotes() {
        if (calls.arguments() == 0) {
            input.useFirstQuotes();
            return 0;
        }
        if (!isQuote(calls.start(0), calls.length(0)) || !isQuote(calls.start(1), calls.length(1))) {
            return ERROR_QUOTES;
        }
        input.opening.cut(0);
        input.opening.addPart(calls.held, calls.start(0), calls.length(0));
        input.closing.cut(0);
        input.closing.addPart(calls.held, calls.start(1), calls.length(1));
        return 0;
    }

    private boolean isQuote(int start, int length) {
        if (length < 1 || length > QUOTE_MOST) {
            return false;
        }
        for (int k = 0; k < length; k++) {
            int b = calls.held.at(start + k);
            if (isNamePart(b) || isSpace(b) || b == REMARK || b == '(' || b == ')' || b == ',') {
                return false;
            }
        }
        return true;
    }

    private static boolean isLetter(int b) {
        return b >= 'A' && b <= 'Z' || b >= 'a' && b <= 'z' || b == '_';
    }

    private static boolean isDigit(int b) {
        return b >= '0' && b <= '9';
    }

    private static boolean isNamePart(int b) {
        return isLetter(b) || isDigit(b);
    }

    /** A blank or LF. */
    private static boolean isSpace(int b) {
        return b == ' ' || b >= 9 && b <= 13;
    }

    /** The built-in macros; a starred one is a macro only with a ( behind it. */
    private enum BuiltIn {
        DEFINE("define", true),
        PUSHDEF("pushdef", true),
        UNDEFINE("undefine", true),
        POPDEF("popdef", true),
        IFDEF("ifdef", true),
        IFELSE("ifelse", true),
        EVAL("eval", true),
        INCR("incr", true),
        DECR("decr", true),
        LEN("len", true),
        INDEX("index", true),
        SUBSTR("substr", true),
        SHIFT("shift", true),
        DNL("dnl", false),
        DIVERT("divert", false),
        UNDIVERT("undivert", false),
        CHANGEQUOTE("changequote", false);

        final String spelled;
        final boolean starred;

        BuiltIn(String spelled, boolean starred) {
            this.spelled = spelled;
            this.starred = starred;
        }
    }

    /** What may wait in an expression; those of two signs stand first, as they come before those of one. */
    private enum Operator {
        OR("||", 1),
        AND("&&", 2),
        EQUAL("==", 6),
        UNEQUAL("!=", 6),
        AT_MOST("<=", 7),
        AT_LEAST(">=", 7),
        SHIFT_LEFT("<<", 8),
        SHIFT_RIGHT(">>", 8),
        BIT_OR("|", 3),
        BIT_XOR("^", 4),
        BIT_AND("&", 5),
        LESS("<", 7),
        MORE(">", 7),
        ADD("+", 9),
        SUBTRACT("-", 9),
        MULTIPLY("*", 10),
        DIVIDE("/", 10),
        REMAINDER("%", 10),
        KEEP("+", 11),
        NEGATE("-", 11),
        INVERT("~", 11),
        NOT("!", 11),
        PARENTHESIS("(", 0);

        static final int IN_FRONT = 11;
        static final int WEAKEST = 1;

        final String sign;
        final int strength;

        Operator(String sign, int strength) {
            this.sign = sign;
            this.strength = strength;
        }

        boolean isBetween() {
            return strength >= WEAKEST && strength < IN_FRONT;
        }
    }

    /** A row of bytes with a bound; what would go beyond it is not kept, but noted. */
    private static final class Bytes {
        final byte[] row;
        int count;
        boolean over;

        Bytes(int most) {
            row = new byte[Math.max(most, 0)];
        }

        void cut(int n) {
            if (n >= 0 && n <= count) {
                count = n;
            }
            over = false;
        }

        int at(int i) {
            return i >= 0 && i < count && i < row.length ? row[i] & 255 : -1;
        }

        boolean hasRoom(int n) {
            return n <= row.length - count;
        }

        void add(int b) {
            if (over || count < 0 || count >= row.length) {
                over = true;
                return;
            }
            row[count] = (byte) b;
            count++;
        }

        void addPart(Bytes other, int from, int n) {
            if (over || !hasRoom(n)) {
                over = true;
                return;
            }
            if (from >= 0 && n > 0 && from <= other.count - n) {
                System.arraycopy(other.row, from, row, count, n);
                count += n;
            }
        }

        void addText(String letters) {
            for (int k = 0; k < letters.length(); k++) {
                add(letters.charAt(k));
            }
        }

        void addNumber(int value) {
            long rest = value;
            if (rest < 0) {
                add('-');
                rest = -rest;
            }
            long unit = 1;
            for (int k = 0; k < DIGITS_MOST && unit * 10 <= rest; k++) {
                unit *= 10;
            }
            for (; unit > 0; unit /= 10) {
                add('0' + (int) (rest / unit % 10));
            }
        }
    }

    /** A row of bytes in cells that hang together; -1 is no cell. */
    private static final class Chain {
        int first = -1;
        int last = -1;
        int count;

        void loosen() {
            first = -1;
            last = -1;
            count = 0;
        }
    }

    /** Chains share these cells, so that whole chains are joined or given back at once, and nothing is moved. */
    private static final class Cells {
        private final byte[] bytes;
        private final int[] next;
        private int fresh;
        private int free = -1;
        private int used;

        Cells(int most) {
            bytes = new byte[Math.max(most, 0)];
            next = new int[Math.max(most, 0)];
        }

        void forget() {
            fresh = 0;
            free = -1;
            used = 0;
        }

        private boolean isCell(int cell) {
            return cell >= 0 && cell < bytes.length && cell < next.length;
        }

        int at(int cell) {
            return cell >= 0 && cell < bytes.length ? bytes[cell] & 255 : -1;
        }

        int behind(int cell) {
            return cell >= 0 && cell < next.length ? next[cell] : -1;
        }

        boolean add(Chain chain, Bytes from, int start, int n) {
            if (n > bytes.length - used) {
                return false;
            }
            for (int k = 0; k < n; k++) {
                int cell = free >= 0 ? free : fresh;
                if (!isCell(cell)) {
                    return false;
                }
                if (free >= 0) {
                    free = next[cell];
                } else {
                    fresh++;
                }
                bytes[cell] = (byte) from.at(start + k);
                next[cell] = -1;
                hang(chain, cell, cell, 1);
                used++;
            }
            return true;
        }

        private void hang(Chain chain, int first, int last, int n) {
            if (chain.last >= 0 && chain.last < next.length) {
                next[chain.last] = first;
            } else {
                chain.first = first;
            }
            chain.last = last;
            chain.count += n;
        }

        void join(Chain chain, Chain other) {
            if (other.count > 0) {
                hang(chain, other.first, other.last, other.count);
                other.loosen();
            }
        }

        void release(Chain chain) {
            if (isCell(chain.last)) {
                next[chain.last] = free;
                free = chain.first;
                used -= chain.count;
            }
            chain.loosen();
        }
    }

    /** The text, and before what is left of it all that was put back. */
    private static final class Input {
        static final int KIND_END = 0;
        static final int KIND_QUOTED = 1;
        static final int KIND_REMARK = 2;
        static final int KIND_NAME = 3;
        static final int KIND_BYTE = 4;

        final Bytes opening = new Bytes(QUOTE_MOST);
        final Bytes closing = new Bytes(QUOTE_MOST);
        final Bytes token = new Bytes(INPUT_MOST);
        int kind;
        int tokenLine;
        int taken;

        private Bytes text = new Bytes(0);
        private int textAt;
        /** Filled from its end toward its beginning. */
        private final byte[] back = new byte[INPUT_MOST];
        private int backAt = INPUT_MOST;
        private int fuel;
        private int lines;

        void begin(Bytes wholeText, int wholeFuel) {
            text = wholeText;
            fuel = wholeFuel;
            taken = 0;
            lines = 0;
            textAt = 0;
            backAt = back.length;
            useFirstQuotes();
        }

        void useFirstQuotes() {
            opening.cut(0);
            opening.add(96);
            closing.cut(0);
            closing.add(39);
        }

        int line() {
            return lines + 1;
        }

        int left() {
            return back.length - backAt + text.count - textAt;
        }

        int peek(int k) {
            int place = backAt + k;
            if (place >= 0 && place < back.length) {
                return back[place] & 255;
            }
            return text.at(textAt + place - back.length);
        }

        /** The next byte, or -1 if there is none, or no fuel for it. */
        int take() {
            if (taken >= fuel || left() <= 0) {
                return -1;
            }
            taken++;
            if (backAt >= 0 && backAt < back.length) {
                int b = back[backAt] & 255;
                backAt++;
                return b;
            }
            int b = text.at(textAt);
            textAt++;
            if (b == LF) {
                lines++;
            }
            return b;
        }

        boolean putBack(Bytes bytes) {
            if (bytes.over || bytes.count > INPUT_MOST - left() || bytes.count > backAt) {
                return false;
            }
            backAt -= bytes.count;
            System.arraycopy(bytes.row, 0, back, backAt, bytes.count);
            return true;
        }

        int dropLine() {
            for (int k = 0; k < INPUT_MOST && left() > 0; k++) {
                int b = take();
                if (b < 0) {
                    return ERROR_FUEL;
                }
                if (b == LF) {
                    return 0;
                }
            }
            return 0;
        }

        int readToken() {
            token.cut(0);
            tokenLine = line();
            int b = peek(0);
            if (b < 0) {
                kind = KIND_END;
                return 0;
            }
            if (begins(opening)) {
                return readQuoted();
            }
            if (b == REMARK) {
                return readRemark();
            }
            if (isLetter(b)) {
                return readName();
            }
            kind = KIND_BYTE;
            return takeSome(1, true);
        }

        private boolean begins(Bytes sign) {
            for (int k = 0; k < sign.count; k++) {
                if (peek(k) != sign.at(k)) {
                    return false;
                }
            }
            return true;
        }

        private int takeSome(int n, boolean kept) {
            for (int k = 0; k < n; k++) {
                int b = take();
                if (b < 0) {
                    return ERROR_FUEL;
                }
                if (kept) {
                    token.add(b);
                }
            }
            return 0;
        }

        private int readQuoted() {
            kind = KIND_QUOTED;
            int error = takeSome(opening.count, false);
            int nested = 1;
            for (int k = 0; k < INPUT_MOST && error == 0 && left() > 0; k++) {
                if (begins(closing)) {
                    nested--;
                    if (nested == 0) {
                        return takeSome(closing.count, false);
                    }
                    error = takeSome(closing.count, true);
                } else if (begins(opening)) {
                    nested++;
                    error = takeSome(opening.count, true);
                } else {
                    error = takeSome(1, true);
                }
            }
            return error != 0 ? error : ERROR_QUOTE;
        }

        private int readRemark() {
            kind = KIND_REMARK;
            int error = 0;
            for (int k = 0; k < INPUT_MOST && error == 0 && left() > 0; k++) {
                boolean isLast = peek(0) == LF;
                error = takeSome(1, true);
                if (isLast) {
                    return error;
                }
            }
            return error;
        }

        private int readName() {
            kind = KIND_NAME;
            int error = 0;
            for (int k = 0; k < INPUT_MOST && error == 0 && isNamePart(peek(0)); k++) {
                error = takeSome(1, true);
            }
            return error;
        }
    }

    /** The open calls, the innermost one on top: each with its name and then its arguments, all in one row. */
    private static final class Calls {
        final Bytes held = new Bytes(HELD_MOST);
        int open;
        /** The innermost call has all its arguments. */
        boolean complete;

        private final int[] argumentStarts = new int[ARGUMENTS_MOST];
        private int argumentsHeld;
        private final int[] nameStarts = new int[CALLS_MOST];
        private final int[] firstArguments = new int[CALLS_MOST];
        private final int[] nested = new int[CALLS_MOST];
        private final boolean[] tokenCame = new boolean[CALLS_MOST];

        void forget() {
            held.cut(0);
            open = 0;
            complete = false;
            argumentsHeld = 0;
        }

        private boolean hasTop() {
            return open > 0 && open <= CALLS_MOST;
        }

        boolean begin(Bytes name) {
            if (open < 0 || open >= CALLS_MOST || !held.hasRoom(name.count)) {
                return false;
            }
            nameStarts[open] = held.count;
            firstArguments[open] = argumentsHeld;
            nested[open] = 1;
            open++;
            held.addPart(name, 0, name.count);
            return true;
        }

        boolean beginArgument() {
            if (!hasTop() || argumentsHeld < 0 || argumentsHeld >= argumentStarts.length) {
                return false;
            }
            argumentStarts[argumentsHeld] = held.count;
            argumentsHeld++;
            tokenCame[open - 1] = false;
            return true;
        }

        void end() {
            if (hasTop()) {
                open--;
                held.cut(nameStarts[open]);
                argumentsHeld = firstArguments[open];
            }
            complete = false;
        }

        boolean hold(Bytes token) {
            if (!held.hasRoom(token.count)) {
                return false;
            }
            held.addPart(token, 0, token.count);
            return true;
        }

        void noteToken() {
            if (hasTop()) {
                tokenCame[open - 1] = true;
            }
        }

        boolean hasToken() {
            return hasTop() && tokenCame[open - 1];
        }

        void nest(int step) {
            if (hasTop()) {
                nested[open - 1] += step;
                complete = nested[open - 1] == 0;
            }
        }

        boolean isOutermost() {
            return hasTop() && nested[open - 1] == 1;
        }

        int arguments() {
            return hasTop() ? argumentsHeld - firstArguments[open - 1] : 0;
        }

        /** Where an argument begins; one that is not there is behind all others, and without bytes. */
        int start(int i) {
            if (i < 0 || open < 1 || open > CALLS_MOST) {
                return held.count;
            }
            int place = firstArguments[open - 1] + i;
            return place >= 0 && place < argumentsHeld && place < argumentStarts.length
                    ? argumentStarts[place] : held.count;
        }

        int length(int i) {
            return start(i + 1) - start(i);
        }

        int nameStart() {
            return hasTop() ? nameStarts[open - 1] : 0;
        }

        int nameLength() {
            return start(0) - nameStart();
        }
    }

    /** A meaning of a name: a text, or what is built in. */
    private static final class Meaning {
        final Chain name = new Chain();
        final Chain text = new Chain();
        BuiltIn builtIn;
        int hash;
        Meaning next;
    }

    /** All meanings, the newer ones of a name before its older ones. */
    private static final class Meanings {
        private static final int BUCKETS = 128;
        private static final int BUILT_IN_BYTES = 128;

        final Cells cells = new Cells(MEANING_BYTES_MOST + BUILT_IN_BYTES);
        int defined;
        int definedBytes;

        private final Meaning[] buckets = new Meaning[BUCKETS];
        private final Meaning[] all = new Meaning[MEANINGS_MOST + BUILT_INS.length];
        private Meaning spare;

        Meanings() {
            for (int i = 0; i < all.length; i++) {
                all[i] = new Meaning();
            }
        }

        void forget() {
            cells.forget();
            defined = 0;
            definedBytes = 0;
            for (int i = 0; i < buckets.length; i++) {
                buckets[i] = null;
            }
            spare = null;
            for (int i = 0; i < all.length; i++) {
                Meaning meaning = all[i];
                meaning.name.loosen();
                meaning.text.loosen();
                meaning.next = spare;
                spare = meaning;
            }
        }

        private static int hashOf(Bytes bytes, int start, int n) {
            int hash = 0;
            for (int k = 0; k < n; k++) {
                hash = hash * 31 + bytes.at(start + k);
            }
            return hash;
        }

        private static int bucketOf(int hash) {
            return hash & BUCKETS - 1;
        }

        Meaning find(Bytes bytes, int start, int n) {
            int hash = hashOf(bytes, start, n);
            for (Meaning m = buckets[bucketOf(hash)]; m != null; m = m.next) {
                if (m.hash == hash && isNamed(m, bytes, start, n)) {
                    return m;
                }
            }
            return null;
        }

        private boolean isNamed(Meaning meaning, Bytes bytes, int start, int n) {
            if (meaning.name.count != n) {
                return false;
            }
            int cell = meaning.name.first;
            for (int k = 0; k < n; k++) {
                if (cells.at(cell) != bytes.at(start + k)) {
                    return false;
                }
                cell = cells.behind(cell);
            }
            return true;
        }

        private Meaning addOnTop(Bytes bytes, int start, int n) {
            Meaning meaning = spare;
            if (meaning == null) {
                return null;
            }
            spare = meaning.next;
            meaning.hash = hashOf(bytes, start, n);
            cells.add(meaning.name, bytes, start, n);
            int bucket = bucketOf(meaning.hash);
            meaning.next = buckets[bucket];
            buckets[bucket] = meaning;
            return meaning;
        }

        void addBuiltIn(BuiltIn builtIn, Bytes name) {
            Meaning meaning = addOnTop(name, 0, name.count);
            if (meaning != null) {
                meaning.builtIn = builtIn;
            }
        }

        /** The first argument gets the second one as its meaning, or nothing is changed: there is no room. */
        boolean define(Calls calls, boolean onTop) {
            int nameLength = calls.length(0);
            int length = calls.length(1);
            Meaning top = onTop ? null : find(calls.held, calls.start(0), nameLength);
            boolean replaces = top != null && top.builtIn == null;
            int moreBytes = replaces ? length - top.text.count : length + nameLength;
            int more = replaces ? 0 : 1;
            if (more > MEANINGS_MOST - defined || moreBytes > MEANING_BYTES_MOST - definedBytes) {
                return false;
            }
            if (top == null) {
                top = addOnTop(calls.held, calls.start(0), nameLength);
            }
            if (top == null) {
                return false;
            }
            top.builtIn = null;
            cells.release(top.text);
            cells.add(top.text, calls.held, calls.start(1), length);
            defined += more;
            definedBytes += moreBytes;
            return true;
        }

        /** The name loses its top meaning, or all of them. */
        void take(Bytes bytes, int start, int n, boolean everyOne) {
            int hash = hashOf(bytes, start, n);
            int bucket = bucketOf(hash);
            Meaning before = null;
            Meaning m = buckets[bucket];
            while (m != null) {
                Meaning next = m.next;
                if (m.hash != hash || !isNamed(m, bytes, start, n)) {
                    before = m;
                } else {
                    if (before == null) {
                        buckets[bucket] = next;
                    } else {
                        before.next = next;
                    }
                    release(m);
                    if (!everyOne) {
                        return;
                    }
                }
                m = next;
            }
        }

        private void release(Meaning meaning) {
            if (meaning.builtIn == null) {
                defined--;
                definedBytes -= meaning.name.count + meaning.text.count;
            }
            cells.release(meaning.name);
            cells.release(meaning.text);
            meaning.builtIn = null;
            meaning.next = spare;
            spare = meaning;
        }
    }

    /** Where all that comes out goes. */
    private static final class Diversions {
        static final int NOWHERE = -1;

        int current;

        private final Cells cells = new Cells(DIVERTED_MOST);
        private final Chain[] chains = new Chain[DIVERSIONS];

        Diversions() {
            for (int i = 0; i < chains.length; i++) {
                chains[i] = new Chain();
            }
        }

        void forget() {
            cells.forget();
            for (int i = 0; i < chains.length; i++) {
                chains[i].loosen();
            }
            current = 0;
        }

        boolean add(Bytes token) {
            if (current < 0 || current >= chains.length) {
                return true;
            }
            return cells.add(chains[current], token, 0, token.count);
        }

        void bring(int i) {
            if (i < 1 || i >= chains.length || i == current) {
                return;
            }
            if (current < 0 || current >= chains.length) {
                cells.release(chains[i]);
            } else {
                cells.join(chains[current], chains[i]);
            }
        }

        void gather(Bytes out) {
            for (int i = 0; i < chains.length; i++) {
                int cell = chains[i].first;
                for (int k = 0; k < chains[i].count; k++) {
                    out.add(cells.at(cell));
                    cell = cells.behind(cell);
                }
            }
        }
    }

    /** Reckons from the left with rows of values and of what waits for them, so that nothing calls itself. */
    private static final class Expression {
        /** In one another there are at most 30, and of what is between at most ten wait in each of them. */
        private static final int WAITING_MOST = 11 * (NESTED_MOST + 1);

        private Bytes source = new Bytes(0);
        private int at;
        private int end;
        private final int[] values = new int[WAITING_MOST + 1];
        private int valueCount;
        private final Operator[] waiting = new Operator[WAITING_MOST];
        private int waitingCount;
        private int nested;
        private boolean valueDue;
        private boolean byZero;

        int evaluate(Bytes bytes, int start, int length, Bytes result) {
            begin(bytes, start, start + length);
            for (int k = 0; k < length && at < end; k++) {
                int b = source.at(at);
                boolean fits;
                if (isSpace(b)) {
                    at++;
                    fits = true;
                } else if (valueDue) {
                    fits = isDigit(b) ? takeNumber() : takeInFront(b);
                } else {
                    fits = b == ')' ? takeClosing() : takeBetween();
                }
                if (!fits) {
                    return ERROR_EXPRESSION;
                }
            }
            if (valueDue) {
                return ERROR_EXPRESSION;
            }
            reckon(Operator.WEAKEST);
            if (waitingCount > 0 || valueCount != 1) {
                return ERROR_EXPRESSION;
            }
            if (byZero) {
                return ERROR_DIVISION;
            }
            result.addNumber(values[0]);
            return 0;
        }

        private void begin(Bytes bytes, int start, int behind) {
            source = bytes;
            at = start;
            end = behind;
            valueCount = 0;
            waitingCount = 0;
            nested = 0;
            valueDue = true;
            byZero = false;
        }

        private boolean takeNumber() {
            int value = 0;
            int digits = 0;
            while (digits <= DIGITS_MOST && at < end && isDigit(source.at(at))) {
                value = value * 10 + (source.at(at) - '0');
                digits++;
                at++;
            }
            if (digits > DIGITS_MOST || valueCount < 0 || valueCount >= values.length) {
                return false;
            }
            values[valueCount] = value;
            valueCount++;
            valueDue = false;
            reckon(Operator.IN_FRONT);
            return true;
        }

        private boolean takeInFront(int b) {
            Operator operator = inFront(b);
            if (operator == null || nested >= NESTED_MOST) {
                return false;
            }
            nested++;
            at++;
            return await(operator);
        }

        private Operator inFront(int b) {
            switch (b) {
                case '(':
                    return Operator.PARENTHESIS;
                case '+':
                    return Operator.KEEP;
                case '-':
                    return Operator.NEGATE;
                case '~':
                    return Operator.INVERT;
                case '!':
                    return at + 1 < end && source.at(at + 1) == '=' ? null : Operator.NOT;
                default:
                    return null;
            }
        }

        private boolean takeBetween() {
            Operator operator = between();
            if (operator == null) {
                return false;
            }
            reckon(operator.strength);
            at += operator.sign.length();
            valueDue = true;
            return await(operator);
        }

        private Operator between() {
            for (int i = 0; i < OPERATORS.length; i++) {
                Operator operator = OPERATORS[i];
                if (operator.isBetween() && isNext(operator.sign)) {
                    return operator;
                }
            }
            return null;
        }

        private boolean isNext(String sign) {
            if (sign.length() > end - at) {
                return false;
            }
            for (int k = 0; k < sign.length(); k++) {
                if (source.at(at + k) != sign.charAt(k)) {
                    return false;
                }
            }
            return true;
        }

        private boolean await(Operator operator) {
            if (waitingCount < 0 || waitingCount >= waiting.length) {
                return false;
            }
            waiting[waitingCount] = operator;
            waitingCount++;
            return true;
        }

        private boolean takeClosing() {
            reckon(Operator.WEAKEST);
            if (waitingCount == 0) {
                return false;
            }
            waitingCount--;
            nested--;
            at++;
            reckon(Operator.IN_FRONT);
            return true;
        }

        /** Uses what waits, the newest first, as long as it is of this strength at least. */
        private void reckon(int strength) {
            while (waitingCount > 0 && waitingCount <= waiting.length) {
                Operator operator = waiting[waitingCount - 1];
                if (operator == null || operator.strength < strength) {
                    return;
                }
                if (valueCount < 1 || valueCount > values.length) {
                    return;
                }
                waitingCount--;
                int value = values[valueCount - 1];
                if (!operator.isBetween()) {
                    nested--;
                    values[valueCount - 1] = ofOne(operator, value);
                } else if (valueCount > 1) {
                    valueCount--;
                    values[valueCount - 1] = ofTwo(operator, values[valueCount - 1], value);
                }
            }
        }

        private static int ofOne(Operator operator, int value) {
            switch (operator) {
                case NEGATE:
                    return -value;
                case INVERT:
                    return ~value;
                case NOT:
                    return value == 0 ? 1 : 0;
                default:
                    return value;
            }
        }

        /** A division by 0 is only noted: the rest may still show that there is no expression at all. */
        private int ofTwo(Operator operator, int left, int right) {
            switch (operator) {
                case OR:
                    return left != 0 || right != 0 ? 1 : 0;
                case AND:
                    return left != 0 && right != 0 ? 1 : 0;
                case BIT_OR:
                    return left | right;
                case BIT_XOR:
                    return left ^ right;
                case BIT_AND:
                    return left & right;
                case EQUAL:
                    return left == right ? 1 : 0;
                case UNEQUAL:
                    return left != right ? 1 : 0;
                case LESS:
                    return left < right ? 1 : 0;
                case MORE:
                    return left > right ? 1 : 0;
                case AT_MOST:
                    return left <= right ? 1 : 0;
                case AT_LEAST:
                    return left >= right ? 1 : 0;
                case SHIFT_LEFT:
                    return left << (right & 31);
                case SHIFT_RIGHT:
                    return left >> (right & 31);
                case ADD:
                    return left + right;
                case SUBTRACT:
                    return left - right;
                case MULTIPLY:
                    return left * right;
                case DIVIDE:
                    byZero |= right == 0;
                    return right == 0 ? 0 : left / right;
                case REMAINDER:
                    byZero |= right == 0;
                    return right == 0 ? 0 : left % right;
                default:
                    return 0;
            }
        }
    }
}
