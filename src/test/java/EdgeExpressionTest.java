/** The sentences of promise 5 about expressions. */
public final class EdgeExpressionTest {
    private static final String[][] BY_STRENGTH = {{"||"}, {"&&"}, {"|"}, {"^"}, {"&"}, {"==", "!="},
        {"<", ">", "<=", ">="}, {"<<", ">>"}, {"+", "-"}, {"*", "/", "%"}};
    private static final int[] VALUES = {0, 1, 2, 5, 7};
    private static final String LEAST = "(-999999999*2-147483650)";

    private static void is(Desk desk, String expression, int value) {
        desk.gives("eval(`" + expression + "')", String.valueOf(value));
    }

    private static void isNone(Desk desk, String... expressions) {
        for (String expression : expressions) {
            desk.fails("eval(`" + expression + "')", 38, 1 + expression.length() - expression.replace("\n", "").length());
        }
    }

    private static void isByZero(Desk desk, String... expressions) {
        for (String expression : expressions) {
            desk.fails("eval(`" + expression + "')", 39, 1);
        }
    }

    /** The value, but null where something is divided by 0. */
    private static Integer of(String sign, Integer a, Integer b) {
        if (a == null || b == null || b == 0 && (sign.equals("/") || sign.equals("%"))) {
            return null;
        }
        switch (sign) {
            case "||": return a != 0 || b != 0 ? 1 : 0;
            case "&&": return a != 0 && b != 0 ? 1 : 0;
            case "|": return a | b;
            case "^": return a ^ b;
            case "&": return a & b;
            case "==": return (int) a == b ? 1 : 0;
            case "!=": return (int) a != b ? 1 : 0;
            case "<": return a < b ? 1 : 0;
            case ">": return a > b ? 1 : 0;
            case "<=": return a <= b ? 1 : 0;
            case ">=": return a >= b ? 1 : 0;
            case "<<": return a << b;
            case ">>": return a >> b;
            case "+": return a + b;
            case "-": return a - b;
            case "*": return a * b;
            case "/": return a / b;
            default: return a % b;
        }
    }

    /** One text with all values around two operators; the right one is reckoned first if it is the stronger one. */
    private static void pair(Desk desk, String left, String right, boolean rightFirst) {
        StringBuilder text = new StringBuilder();
        StringBuilder due = new StringBuilder();
        for (int a : VALUES) {
            for (int b : VALUES) {
                for (int c : VALUES) {
                    Integer value = rightFirst ? of(left, a, of(right, b, c)) : of(right, of(left, a, b), c);
                    if (value != null) {
                        text.append("eval(").append(a).append(left).append(b).append(right).append(c).append(")");
                        due.append(value);
                    }
                }
            }
        }
        desk.gives(text.toString(), due.toString());
    }

    private static void strengths(Desk desk) {
        desk.about("by rising strength || && | ^ & (== !=) (< > <= >=) (<< >>) (+ -) (* / %)");
        for (int i = 0; i < BY_STRENGTH.length; i++) {
            for (int j = 0; j < BY_STRENGTH.length; j++) {
                for (int k = 0; k < BY_STRENGTH[i].length * BY_STRENGTH[j].length && i != j; k++) {
                    String left = BY_STRENGTH[i][k / BY_STRENGTH[j].length];
                    pair(desk, left, BY_STRENGTH[j][k % BY_STRENGTH[j].length], j > i);
                }
            }
        }
        is(desk, "1||0&&0|0^0&1==1<1<<1+1*1", 1);
        is(desk, "1*1+1<<1<1==1&0^0|0&&0||1", 1);
    }

    private static void fromTheLeft(Desk desk) {
        desk.about("all of one strength from the left");
        for (String[] ofOneStrength : BY_STRENGTH) {
            for (String left : ofOneStrength) {
                for (String right : ofOneStrength) {
                    pair(desk, left, right, false);
                }
            }
        }
        is(desk, "1" + "-1".repeat(4000), -3999);
    }

    private static void inFront(Desk desk) {
        desk.about("and in front + - ~ !");
        is(desk, "+5", 5);
        is(desk, "-5", -5);
        is(desk, "~5", -6);
        is(desk, "!5", 0);
        is(desk, "!0", 1);
        is(desk, "-~5", 6);
        is(desk, "~-5", 4);
        is(desk, "!-1", 0);
        is(desk, "- -+ -5", -5);
        is(desk, "--5", 5);
        is(desk, "7--2", 9);
        is(desk, "7-+-2", 9);
        is(desk, "-7*-2", 14);
        is(desk, "-2+3", 1);
        is(desk, "~1+1", -1);
        is(desk, "!1==0", 1);
        is(desk, "!2||1", 1);
        is(desk, "!0*3", 3);
        is(desk, "-1>>1", -1);
        is(desk, "5&~1", 4);
        is(desk, "1<-1", 0);
        is(desk, "-(1+2)", -3);
        is(desk, "!(1-1)+1", 2);
    }

    private static void numbers(Desk desk) {
        desk.about("numbers without - (1 to 9 digits, of base 10 always)");
        is(desk, "0", 0);
        is(desk, "9", 9);
        is(desk, "999999999", 999999999);
        is(desk, "-999999999", -999999999);
        is(desk, "000000001", 1);
        is(desk, "010", 10);
        is(desk, "08", 8);
        isNone(desk, "1000000000", "0000000001", "-1000000000", "-0000000001", "1+1000000000", "12345678901", "0x1", "1e1",
                "1.0", "1a", "0b1", "1_0");
    }

    private static void parentheses(Desk desk) {
        desk.about("( )");
        is(desk, "(1)", 1);
        is(desk, "((1))", 1);
        is(desk, "(1+2)*3", 9);
        is(desk, "2*(3+4)*5", 70);
        is(desk, "10-(4-3)", 9);
        isNone(desk, "()", "(", ")", "(1", "1)", "((1)", "(1))", ")1(", "(1)2", "2(1)", "(1)(2)", "(1+)", "(+)", "1+()", "(())");
        desk.gives("eval((1+2)*(3))", "9");
    }

    private static void blanks(Desk desk) {
        desk.about("blanks and LF between count for nothing");
        for (char b = 0; b < 256; b++) {
            if (" \t\u000b\f\r\n".indexOf(b) >= 0) {
                is(desk, b + "1" + b + "+" + b + "-" + b + "(" + b + "2" + b + "<<" + b + "3" + b + ")" + b, -15);
            } else if ("0123456789`'".indexOf(b) < 0) {
                desk.same("run of an eval with " + (int) b, Desk.fed("eval(`1" + b + "')").run(Desk.MUCH), 38);
            }
        }
        isNone(desk, "1 2", "1\n2", "1< <1", "1> >1", "1< =1", "1> =1", "1= =1", "1! =2", "1& &1", "1| |1");
    }

    private static void twoSigns(Desk desk) {
        desk.about("an operator of two signs comes before one of the first sign alone");
        is(desk, "1<<1", 2);
        is(desk, "4>>1", 2);
        is(desk, "1<=1", 1);
        is(desk, "1>=1", 1);
        is(desk, "2&&1", 1);
        is(desk, "2||1", 1);
        is(desk, "2!=1", 1);
        is(desk, "2==2", 1);
        is(desk, "1<<-31", 2);
        is(desk, "1&&!1", 0);
        isNone(desk, "1<<<1", "1>>>1", "1<<=1", "1>>=1", "1&&&1", "1|||1", "1===1", "1!==1", "1<==1", "!=1", "!!=1", "1!1",
                "1=1", "1=<1", "1=>1", "1<>1", "1|&1", "1&|1");
    }

    private static void oneOrZero(Desk desk) {
        desk.about("comparisons, !, || and && give 1 or 0");
        is(desk, "5==5", 1);
        is(desk, "5==6", 0);
        is(desk, "5!=5", 0);
        is(desk, "5!=6", 1);
        is(desk, "5<5", 0);
        is(desk, "5<6", 1);
        is(desk, "-5<5", 1);
        is(desk, "5>5", 0);
        is(desk, "6>5", 1);
        is(desk, "5>-5", 1);
        is(desk, "5<=5", 1);
        is(desk, "6<=5", 0);
        is(desk, "5>=5", 1);
        is(desk, "5>=6", 0);
        is(desk, LEAST + "<1", 1);
        is(desk, "!!7", 1);
        is(desk, "!-1", 0);
        is(desk, "0||0", 0);
        is(desk, "0||7", 1);
        is(desk, "-7||0", 1);
        is(desk, "2&&4", 1);
        is(desk, "2&&0", 0);
        is(desk, "0&&2", 0);
        is(desk, "0&&0", 0);
    }

    private static void runningOver(Desk desk) {
        desk.about("values are of 32 bits with a sign, running over");
        is(desk, LEAST, Integer.MIN_VALUE);
        is(desk, LEAST + "-1", Integer.MAX_VALUE);
        is(desk, "~" + LEAST, Integer.MAX_VALUE);
        is(desk, "~" + LEAST + "+1", Integer.MIN_VALUE);
        is(desk, "-" + LEAST, Integer.MIN_VALUE);
        is(desk, LEAST + "*-1", Integer.MIN_VALUE);
        is(desk, LEAST + "+" + LEAST, 0);
        is(desk, "65536*65536", 0);
        is(desk, "65536*32768", Integer.MIN_VALUE);
        is(desk, "999999999*999999999", 999999999 * 999999999);
        is(desk, "999999999+999999999+999999999", 999999999 * 3);
        is(desk, "999999999<<1", 1999999998);
        is(desk, "999999999<<2", 999999999 << 2);
    }

    private static void leastByMinusOne(Desk desk) {
        desk.about("(the least one by -1 is itself, and leaves 0)");
        is(desk, LEAST + "/-1", Integer.MIN_VALUE);
        is(desk, LEAST + "%-1", 0);
        is(desk, "(" + LEAST + "+1)/-1", Integer.MAX_VALUE);
        is(desk, LEAST + "/1", Integer.MIN_VALUE);
        is(desk, LEAST + "%-2", 0);
        is(desk, "1/" + LEAST, 0);
        is(desk, "-5%" + LEAST, -5);
    }

    private static void shifts(Desk desk) {
        desk.about("shifts go by the lowest five bits, those to the right keep the sign");
        is(desk, "1<<0", 1);
        is(desk, "1<<31", Integer.MIN_VALUE);
        is(desk, "1<<32", 1);
        is(desk, "1<<33", 2);
        is(desk, "1<<64", 1);
        is(desk, "1<<-1", Integer.MIN_VALUE);
        is(desk, "1<<-32", 1);
        is(desk, "3<<31", Integer.MIN_VALUE);
        is(desk, "8>>1", 4);
        is(desk, "8>>32", 8);
        is(desk, "8>>33", 4);
        is(desk, "8>>-31", 4);
        is(desk, "-8>>1", -4);
        is(desk, "-7>>1", -4);
        is(desk, "-1>>31", -1);
        is(desk, "-1>>32", -1);
        is(desk, LEAST + ">>31", -1);
        is(desk, "999999999>>31", 0);
    }

    private static void bothSides(Desk desk) {
        desk.about("|| && always look at both sides");
        isByZero(desk, "1||1/0", "0&&1/0", "1||0%0", "0&&(1/0)", "1/0||1", "1/0&&0", "1||1||1/0", "0&&0&&1/0", "1||0&&1/0");
        isNone(desk, "1||", "0&&", "1||x", "0&&x");
    }

    private static void cutTowardZero(Desk desk) {
        desk.about("/ and % are cut toward 0");
        is(desk, "7/2", 3);
        is(desk, "-7/2", -3);
        is(desk, "7/-2", -3);
        is(desk, "-7/-2", 3);
        is(desk, "7%2", 1);
        is(desk, "-7%2", -1);
        is(desk, "7%-2", 1);
        is(desk, "-7%-2", -1);
        is(desk, "1/2", 0);
        is(desk, "-1/2", 0);
        is(desk, "-1%2", -1);
        is(desk, "0/5", 0);
        is(desk, "0%5", 0);
    }

    private static void none(Desk desk) {
        desk.about("Error 38 EXPRESSION: it is none (also without bytes)");
        isNone(desk, "", " ", "\n", "+", "-", "!", "*", "1+", "1*", "*1", "/1", "1 1", "1**1", "1//1", "a", "1+a", "$", ",",
                "1,2", ";", "=", "1=", "1<", "1<<", "~", "1~", "1~1", "1!", "\u0000", "\u00ff", "1;");
        desk.fails("eval()", 38, 1);
        desk.fails("eval( \n )", 38, 2);
        desk.fails("eval(,1)", 38, 1);
        desk.fails("a\neval(1+)\n", 38, 2, 10);
    }

    private static void inOneAnother(Desk desk) {
        desk.about("or ( ) and operators in front are more than 30 in one another");
        is(desk, "(".repeat(30) + "1" + ")".repeat(30), 1);
        isNone(desk, "(".repeat(31) + "1" + ")".repeat(31));
        for (char sign : new char[] {'+', '-', '~', '!'}) {
            is(desk, String.valueOf(sign).repeat(30) + "1", 1);
            isNone(desk, String.valueOf(sign).repeat(31) + "1");
            is(desk, "1+" + String.valueOf(sign).repeat(30) + "1", 2);
            isNone(desk, "1+" + String.valueOf(sign).repeat(31) + "1");
        }
        is(desk, "-(".repeat(15) + "1" + ")".repeat(15), -1);
        isNone(desk, "-(".repeat(15) + "-1" + ")".repeat(15));
        isNone(desk, "-(".repeat(15) + "(1)" + ")".repeat(15));
        is(desk, "(".repeat(29) + "-1+-1+(1)" + ")".repeat(29), -1);
        isNone(desk, "(".repeat(29) + "1+-(1)" + ")".repeat(29));
        is(desk, "(1)" + "+(-(1))".repeat(100), -99);
        is(desk, "-1".repeat(100), -100);
        is(desk, "-".repeat(30) + "1+" + "(".repeat(30) + "1" + ")".repeat(30) + "+" + "~".repeat(30) + "1", 3);
        String rising = "1||1&&1|1^1&1==1<1<<1+1*";
        is(desk, (rising + "(").repeat(30) + rising + "1" + ")".repeat(30), 1);
        is(desk, (rising + "-").repeat(60) + "1", 1);
    }

    private static void byZero(Desk desk) {
        desk.about("39 DIVISION: by 0 (38 first)");
        isByZero(desk, "1/0", "1%0", "0/0", "0%0", "1/(1-1)", "1/!1", "-(1/0)", "1/0*0", "0*(1/0)", "1/0/0", LEAST + "/0",
                "(".repeat(30) + "1/0" + ")".repeat(30));
        isNone(desk, "1/0+", "1/0)", "(1/0", "1/0 1", "1%0a", "+1/0*", "1/0+1000000000", "1/0+" + "-".repeat(31) + "1");
        is(desk, "0/1", 0);
        desk.fails("a\neval(1/0)\n", 39, 2, 11);
    }

    public static void main(String[] args) {
        Desk desk = new Desk("Promise 5: run");
        strengths(desk);
        fromTheLeft(desk);
        inFront(desk);
        numbers(desk);
        parentheses(desk);
        blanks(desk);
        twoSigns(desk);
        oneOrZero(desk);
        runningOver(desk);
        leastByMinusOne(desk);
        shifts(desk);
        bothSides(desk);
        cutTowardZero(desk);
        none(desk);
        inOneAnother(desk);
        byZero(desk);
        desk.end();
    }
}
