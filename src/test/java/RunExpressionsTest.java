/** Promise 5: eval, and the errors 38 and 39. */
public final class RunExpressionsTest {
    private static void is(Desk desk, String expression, long value) {
        desk.gives("eval(`" + expression + "')", String.valueOf(value));
    }

    private static void values(Desk desk) {
        is(desk, "0", 0);
        is(desk, "007", 7);
        is(desk, "010", 10);
        is(desk, "999999999", 999999999);
        is(desk, " 1\n+\t2\u000b\f\r ", 3);
        is(desk, "1+2*3-4", 3);
        is(desk, "(1+2)*3", 9);
        is(desk, "10-4-3", 3);
        is(desk, "100/7/2", 7);
        is(desk, "100/(7/2)", 33);
        is(desk, "7%4*3", 9);
        is(desk, "-7/2", -3);
        is(desk, "-7%2", -1);
        is(desk, "7/-2", -3);
        is(desk, "7%-2", 1);
        is(desk, "1--1", 2);
        is(desk, "1+-+-1", 2);
        is(desk, "- - -3", -3);
        is(desk, "~0", -1);
        is(desk, "-~5", 6);
        is(desk, "!5+!0", 1);
        is(desk, "!!7", 1);
        is(desk, "-2*-3", 6);
        is(desk, "~1+1", -1);
        is(desk, "!1==0", 1);
    }

    private static void strengths(Desk desk) {
        is(desk, "2||0&&0", 1);
        is(desk, "0&&1||1", 1);
        is(desk, "1&&2|0", 1);
        is(desk, "0&&0|1", 0);
        is(desk, "1|2^3", 1);
        is(desk, "3^1|2", 2);
        is(desk, "1^3&2", 3);
        is(desk, "4&5==5", 0);
        is(desk, "1&5==5", 1);
        is(desk, "2==1<2", 0);
        is(desk, "1==1<2", 1);
        is(desk, "1!=2>1", 0);
        is(desk, "3<1<<2", 1);
        is(desk, "1<<2<3", 0);
        is(desk, "1<<1+1", 4);
        is(desk, "1+1<<1", 4);
        is(desk, "16>>1-1", 16);
        is(desk, "5-1*2", 3);
        is(desk, "3>2>1", 0);
        is(desk, "3>2>0", 1);
        is(desk, "2<=2", 1);
        is(desk, "3<=2", 0);
        is(desk, "2>=3", 0);
        is(desk, "3>=3>=1", 1);
        is(desk, "5==5==1", 1);
        is(desk, "5!=5!=1", 1);
        is(desk, "1<-1", 0);
        is(desk, "1&-1", 1);
        is(desk, "4|~4", -1);
        is(desk, "2!=!2", 1);
        is(desk, "0||0", 0);
        is(desk, "0||-3", 1);
        is(desk, "2&&-3", 1);
        is(desk, "1||0==0&&1|2^3&4==5<6<<7+8*9", 1);
        is(desk, "1*2+3<<4<5==6&7^8|9&&10||11", 1);
    }

    private static void bits(Desk desk) {
        String least = "(-999999999*2-147483650)";
        is(desk, least, Integer.MIN_VALUE);
        is(desk, least + "-1", Integer.MAX_VALUE);
        is(desk, "-" + least, Integer.MIN_VALUE);
        is(desk, least + "/-1", Integer.MIN_VALUE);
        is(desk, least + "%-1", 0);
        is(desk, "999999999*999999999", 999999999 * 999999999);
        is(desk, "999999999+999999999+999999999", 999999999 * 3);
        is(desk, "1<<31", Integer.MIN_VALUE);
        is(desk, "1<<32", 1);
        is(desk, "1<<33", 2);
        is(desk, "1<<-1", Integer.MIN_VALUE);
        is(desk, "-8>>1", -4);
        is(desk, "-1>>31", -1);
        is(desk, "-1>>32", -1);
        is(desk, "8>>-31", 4);
    }

    private static void errors(Desk desk) {
        String[] none = {"", " ", "\n", "1+", "+", "*1", "1 2", "(1", "1)", "()", "(", ")", "1(2)", "(1)2", "(1)(2)",
            "1a", "a", "1+a", "1234567890", "0000000001", "1=1", "=", "1===1", "1<<<1", "1>>>1", "1&&&1", "1|||1",
            "1< <1", "1& &1", "1! =2", "!=1", "1!1", "1~1", "1**2", "1//2", "1,2", "$", "1.5", "1;", "0x1", "1<>2",
            "1=<2", "-", "!", "1-", "(1+)", "(+1", "1/0+", "1/0)", "(1/0", "1%0 1", "1 !1", "1=", "1<", "!!=1"};
        for (String expression : none) {
            String text = "eval(`" + expression + "')";
            desk.fails(text, 38, expression.contains("\n") ? 2 : 1);
        }
        desk.fails("eval()", 38, 1);
        desk.fails("eval(,1)", 38, 1);
        String[] byZero = {"1/0", "1%0", "0/0", "1/(2-2)", "0&&1/0", "1||1%0", "1/0*0", "1/0/0", "5/!1", "1/0||1", "-(1/0)"};
        for (String expression : byZero) {
            desk.fails("eval(`" + expression + "')", 39, 1);
        }
        desk.gives("eval(1,x)eval((2),)eval(3 )", "123");
        desk.gives("define(`n',`4')eval(n+eval(n))", "8");
    }

    private static void nesting(Desk desk) {
        is(desk, "(".repeat(30) + "1" + ")".repeat(30), 1);
        is(desk, "-".repeat(30) + "1", 1);
        is(desk, "-(".repeat(15) + "1" + ")".repeat(15), -1);
        is(desk, "-1".repeat(100), -100);
        is(desk, "(1)" + "+(-(1))".repeat(100), -99);
        is(desk, "-".repeat(30) + "1+" + "(".repeat(30) + "1" + ")".repeat(30) + "+" + "~".repeat(30) + "1", 3);
        String rising = "1||1&&1|1^1&1==1<1<<1+1*";
        is(desk, (rising + "(").repeat(30) + rising + "1" + ")".repeat(30), 1);
        desk.fails("eval(`" + "(".repeat(31) + "1" + ")".repeat(31) + "')", 38, 1);
        desk.fails("eval(`" + "-".repeat(31) + "1')", 38, 1);
        desk.fails("eval(`" + "-(".repeat(15) + "-1" + ")".repeat(15) + "')", 38, 1);
        desk.fails("eval(`" + "(".repeat(30) + "-1" + ")".repeat(30) + "')", 38, 1);
        desk.fails("eval(`" + "(".repeat(30) + "1/0" + ")".repeat(30) + "')", 39, 1);
        desk.fails("eval(`1/0+" + "!".repeat(31) + "1')", 38, 1);
    }

    public static void main(String[] args) {
        Desk desk = new Desk();
        values(desk);
        strengths(desk);
        bits(desk);
        errors(desk);
        nesting(desk);
        desk.end();
    }
}
