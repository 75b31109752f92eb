/** The sentences of promise 5 about error 40 ROOM: each limit at it and one beyond it. */
public final class EdgeRoomTest {
    private static final int INPUT = 32768;
    private static final int HELD = 16384;
    private static final int ARGUMENTS = 8192;
    private static final int MEANING_BYTES = 16384;
    private static final int MEANINGS = 300;
    private static final int DIVERTED = 32768;

    private static String x(int n) {
        return "x".repeat(n);
    }

    private static void input(Desk desk) {
        desk.about("Error 40 ROOM: the input left would have more than 32768 bytes");
        String head = "divert(-1)define(`a',`$1$1$1')a(" + x(1000) + ")";
        Mill mill = desk.gives(head + " ".repeat(INPUT - 3000), "");
        desk.same("told(1) of a full input", mill.told(1), head.length() + INPUT);
        desk.fails(head + " ".repeat(INPUT - 2999), 40, 1, head.length());
        desk.fails("\n" + head + " ".repeat(INPUT - 3000) + "\n", 40, 2, 1 + head.length());
        String eight = "define(`a',`$1$1$1$1$1$1$1$1')a(" + x(INPUT / 8) + ")";
        desk.gives(eight, x(INPUT));
        desk.fails(eight + ";", 40, 1, eight.length());
        for (String more : new String[] {".", "$", "$0", "$1", "$#", "$*", "$@"}) {
            desk.fails(eight.replace("$1')", "$1" + more + "')"), 40, 1);
            desk.fails(eight.replace("`$1", "`" + more + "$1"), 40, 1);
        }
        for (String more : new String[] {"$2", "$9"}) {
            desk.gives(eight.replace("$1')", "$1" + more + "')"), x(INPUT));
        }
        desk.fails("define(`a',`a`'x')a", 40, 1, 10941);
        String shifted = "shift(" + ",".repeat(ARGUMENTS - 1) + ")";
        int given = 3 * (ARGUMENTS - 1) - 1;
        desk.gives(shifted + " ".repeat(INPUT - given), ",".repeat(ARGUMENTS - 2) + " ".repeat(INPUT - given));
        desk.fails(shifted + " ".repeat(INPUT - given + 1), 40, 1, shifted.length());
        String all = "divert(-1)define(`a',`$*$*$*$*')a(" + ",".repeat(8000) + ")";
        desk.gives(all + " ".repeat(INPUT - 32000), "");
        desk.fails(all + " ".repeat(INPUT - 31999), 40, 1, all.length());
    }

    private static void held(Desk desk) {
        desk.about("the names and arguments of open calls together more than 16384 bytes");
        desk.gives("len(" + x(HELD - 3) + ")", "16381");
        desk.fails("len(" + x(HELD - 2) + ")", 40, 1, 4 + HELD - 2);
        desk.gives("len(`" + x(HELD - 3) + "')", "16381");
        desk.fails("\nlen(`" + x(HELD - 3) + "\n')", 40, 3, 6 + HELD - 2 + 1);
        desk.gives("len(" + " ".repeat(16000) + x(HELD - 3) + ")", "16381");
        desk.gives("len(" + x(8000) + "," + x(HELD - 8003) + ")", "8000");
        desk.fails("len(" + x(8000) + "," + x(HELD - 8002) + ")", 40, 1, 5 + HELD - 2);
        desk.gives("len(len(len(" + x(HELD - 9) + ")))", "1");
        desk.fails("len(len(len(" + x(HELD - 8) + ")))", 40, 1, 12 + HELD - 8);
        desk.gives("len(" + x(HELD - 6) + "`'len())", "16379");
        desk.fails("len(" + x(HELD - 5) + "`'len())", 40, 1, 4 + HELD - 5 + 5);
        desk.fails("len(" + x(HELD - 4) + ";;)", 40, 1, 4 + HELD - 4 + 2);
        desk.gives("len(" + x(HELD - 3) + ")len(" + x(16000) + ")", "1638116000");
        desk.gives("len(len(" + x(HELD - 6) + ")," + x(HELD - 8) + ")", "5");
    }

    private static void arguments(Desk desk) {
        desk.about("these arguments be more than 8192");
        desk.gives("define(`f',`$#')f(" + ",".repeat(ARGUMENTS - 1) + ")", "8192");
        desk.fails("len(" + ",".repeat(ARGUMENTS) + ")", 40, 1, 4 + ARGUMENTS);
        desk.fails("\nlen(" + ",".repeat(ARGUMENTS - 1) + "\n,)", 40, 3, 5 + ARGUMENTS + 1);
        desk.gives("len(" + ",".repeat(ARGUMENTS - 2) + "len())", "0");
        desk.fails("len(" + ",".repeat(ARGUMENTS - 1) + "len(,))", 40, 1, 4 + ARGUMENTS - 1 + 4);
        desk.gives("len(len(" + ",".repeat(ARGUMENTS - 2) + "))", "1");
        desk.fails("len(len(" + ",".repeat(ARGUMENTS - 1) + "))", 40, 1, 8 + ARGUMENTS - 1);
        desk.gives("define(`e',`')len(" + ",".repeat(ARGUMENTS - 1) + "e)", "0");
        desk.gives("len(" + ",".repeat(ARGUMENTS - 1) + ")len(" + ",".repeat(ARGUMENTS - 1) + ")", "00");
        desk.gives("len((" + ",".repeat(ARGUMENTS + 8) + "))", "8202");
    }

    private static void meaningBytes(Desk desk) {
        desk.about("the names and texts of all defined meanings that there are be more than 16384 bytes (the name once for"
                + " each meaning)");
        int half = MEANING_BYTES / 2;
        String a = "define(`a',`" + x(half - 1) + "')";
        String b = "define(`b',`" + x(half - 1) + "')";
        Mill mill = desk.gives(a + b, "");
        desk.same("told(3) of all bytes", mill.told(3), MEANING_BYTES);
        for (String more : new String[] {"define(`c')", "pushdef(`a')", "define(`len')", "define(`b',`" + x(half) + "')"}) {
            mill = desk.fails(a + b + more, 40, 1);
            desk.same("told(2) behind " + more.length() + " bytes more", mill.told(2), 2);
            desk.same("told(3) behind " + more.length() + " bytes more", mill.told(3), MEANING_BYTES);
        }
        desk.fails(a + b.replace("`b'", "`bc'"), 40, 1);
        desk.gives(a + b + "define(`b',`" + x(half - 1) + "')", "");
        desk.gives(a + b + "define(`b',`" + x(half - 2) + "')define(`c')", "");
        desk.fails(a + b + "define(`b',`" + x(half - 3) + "')define(`c',`xx')", 40, 1);
        desk.gives(a + b + "popdef(`a')define(`c',`" + x(half - 1) + "')", "");
        desk.fails(a + b + "undefine(`a')define(`c',`" + x(half) + "')", 40, 1);
        desk.gives(a + b + "undefine(`a',`b')define(`c',`" + x(16000) + "')c", x(16000));
        desk.gives(a + b + "undefine(`b',`a')define(`c',`" + x(16000) + "')c", x(16000));
    }

    /** A name is quoted, so that it is not called where it has a meaning already. */
    private static void nameOnceForEach(Desk desk) {
        desk.about("(the name once for each meaning)");
        String name = "`" + "n".repeat(MEANING_BYTES / 4) + "'";
        String three = ("pushdef(" + name + ")").repeat(3);
        Mill mill = desk.gives(three + "pushdef(" + name + ")", "");
        desk.same("told(2) of one name four times", mill.told(2), 4);
        desk.same("told(3) of one name four times", mill.told(3), MEANING_BYTES);
        mill = desk.fails(three + "pushdef(" + name + ",x)", 40, 1);
        desk.same("told(2) of one name three times", mill.told(2), 3);
        desk.same("told(3) of one name three times", mill.told(3), MEANING_BYTES / 4 * 3);
    }

    private static void meanings(Desk desk) {
        desk.about("these meanings more than 300 (the meanings that are there stay then, and are told)");
        String all = "pushdef(`a',`')".repeat(MEANINGS);
        Mill mill = desk.gives(all, "");
        desk.same("told(2) of 300", mill.told(2), MEANINGS);
        desk.same("told(3) of 300", mill.told(3), MEANINGS);
        for (String more : new String[] {"pushdef(`a')", "define(`b',`c')", "define(`len')", "pushdef(`dnl',`x')"}) {
            mill = desk.fails(all + more, 40, 1);
            desk.same("told(2) behind " + more, mill.told(2), MEANINGS);
            desk.same("told(3) behind " + more, mill.told(3), MEANINGS);
        }
        desk.gives(all + "define(`a',`+')a", "+");
        desk.gives(all + "popdef(`a')pushdef(`b',`+')b", "+");
        desk.fails(all + "popdef(`a')pushdef(`b')pushdef(`b')", 40, 1);
        mill = desk.gives(all + "undefine(`a')" + all, "");
        desk.same("told(2) of 300 behind 300", mill.told(2), MEANINGS);
        mill = desk.gives(all + "undefine(`len',`eval',`dnl')", "");
        desk.same("told(2) without some that are built in", mill.told(2), MEANINGS);
        String different = "define(`d',`define(`n'$1)ifelse($1,$2,,`d(incr($1),$2)')')";
        mill = desk.gives(different + "d(2,300)", "");
        desk.same("told(2) of 300 names", mill.told(2), MEANINGS);
        mill = Desk.fed(different + "d(2,301)");
        desk.same("run with 301 names", mill.run(Desk.MUCH), 40);
        desk.same("told(2) of 301 names", mill.told(2), MEANINGS);
    }

    private static void diversions(Desk desk) {
        desk.about("or more than 32768 bytes in all diversions");
        String one = "define(`a',`$1$1$1$1')a(" + "x;".repeat(2000) + ")";
        String full = one + "a(" + "x;".repeat(2000) + ")";
        String out = "x;".repeat(16000);
        String rest = "y".repeat(DIVERTED - 32000);
        int taken = full.length() + 32000 + rest.length();
        desk.gives(full + rest, out + rest);
        desk.fails(full + rest + ";", 40, 1, taken + 1);
        desk.fails(full + rest + "y", 40, 1, taken + 1);
        desk.fails("\n" + full + "`" + rest + "\n'", 40, 3, taken + 4);
        desk.gives(full + "divert(9)" + rest, out + rest);
        desk.fails(full + "divert(9)" + rest + ";", 40, 1, taken + 10);
        desk.fails("divert(1)" + full + "divert(2)" + rest + "`'divert(0);", 40, 1, taken + 9 + 9 + 12);
        desk.gives(full + rest + "`'divert(-1)" + x(700), out + rest);
        desk.gives("divert(1)" + full + "divert(2)undivert(1)" + rest, out + rest);
        desk.fails("divert(1)" + full + "divert(2)undivert(1)" + rest + ";", 40, 1, taken + 9 + 9 + 11 + 1);
        desk.gives("divert(1)" + one + "divert(-1)undivert(1)divert(2)a(" + "x;".repeat(2000) + ")" + rest,
                "x;".repeat(8000) + rest);
        desk.gives("divert(1)" + full + "divert(-1)undivert(1)divert(2)a(" + "z;".repeat(2000) + ")", "z;".repeat(8000));
        desk.fails(full + rest + "`'divert(-1)divert(0)`y'", 40, 1, taken + 2 + 10 + 9 + 3);
        String twoGone = "divert(1)" + one + "divert(2)a(" + "z;".repeat(2000) + ")divert(-1)undivert(1,2)divert(3)";
        desk.gives(twoGone + "a(" + "y;".repeat(2000) + ")a(" + "z;".repeat(2000) + ")",
                "y;".repeat(8000) + "z;".repeat(8000));
    }

    public static void main(String[] args) {
        Desk desk = new Desk("Promise 5: run");
        input(desk);
        held(desk);
        arguments(desk);
        meaningBytes(desk);
        nameOnceForEach(desk);
        meanings(desk);
        diversions(desk);
        desk.end();
    }
}
