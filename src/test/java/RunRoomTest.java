/** Promise 5: the limits of error 40, each at its last fitting place and one beyond. */
public final class RunRoomTest {
    private static void input(Desk desk) {
        String head = "divert(-1)define(`a',`$1$1$1')a(" + "x".repeat(1000) + ")";
        Mill mill = desk.gives(head + " ".repeat(29768), "");
        desk.same("told(1) of a full input", mill.told(1), head.length() + 32768);
        desk.fails(head + " ".repeat(29769), 40, 1, head.length());
        desk.fails("\n" + head + " ".repeat(29768) + "\n", 40, 2, head.length() + 1);
        String twice = "divert(-1)define(`a',`$@$@')a(" + "x".repeat(8000) + "," + "y".repeat(8000) + ")";
        desk.gives(twice + " ".repeat(758), "");
        desk.fails(twice + " ".repeat(759), 40, 1, twice.length());
        String huge = "define(`a',`" + "$*".repeat(3000) + "')a(" + ",".repeat(8000) + ")";
        desk.fails(huge, 40, 1);
        String shifted = "shift(" + ",".repeat(8191) + ")";
        desk.gives(shifted + " ".repeat(8196), ",".repeat(8190) + " ".repeat(8196));
        desk.fails(shifted + " ".repeat(8197), 40, 1, shifted.length());
        desk.fails("define(`a',`" + "$1".repeat(8000) + "')a(" + "x".repeat(5) + ")", 40, 1);
        desk.gives("define(`a',`" + "$1".repeat(8000) + "')a(" + "x".repeat(4) + ")", "x".repeat(32000));
    }

    private static void held(Desk desk) {
        desk.gives("len(" + "x".repeat(16381) + ")", "16381");
        desk.fails("len(" + "x".repeat(16382) + ")", 40, 1, 4 + 16382);
        desk.fails("len(\n`" + "x".repeat(16382) + "\n')\n", 40, 3, 4 + 16382 + 4);
        desk.gives("len(  `" + "x,)".repeat(5460) + "',)", "16380");
        desk.gives("len(len(" + "x".repeat(16378) + ")" + ")", "5");
        desk.fails("len(len(" + "x".repeat(16379) + ")" + ")", 40, 1, 8 + 16379);
        desk.fails("len(" + "x".repeat(16379) + "`'len()", 40, 1, 4 + 16379 + 2 + 3);
        desk.gives("len(" + "x".repeat(16378) + "`'len())", "16379");
        String empty = "define(`e',`')";
        desk.gives(empty + "len(`" + "x".repeat(16380) + "'e)", "16380");
        desk.fails(empty + "len(`" + "x".repeat(16381) + "'e)", 40, 1, empty.length() + 4 + 16383 + 1);
        desk.fails(empty + "len(`" + "x".repeat(16381) + "'e(", 40, 1, empty.length() + 4 + 16383 + 1);
        desk.gives("len(`" + "x".repeat(16000) + "')len(`" + "x".repeat(16001) + "')", "1600016001");
        String name = "n".repeat(16378);
        desk.gives("define(" + name + ")" + name, "");
        desk.fails("define(" + name + "n)", 40, 1, 7 + 16379);
        desk.fails("define(" + name + ",x)", 40, 1, 7 + 16378 + 2);
    }

    private static void arguments(Desk desk) {
        desk.gives("define(`f',`$#')f(" + ",".repeat(8191) + ")", "8192");
        desk.fails("len(" + ",".repeat(8192) + ")", 40, 1, 4 + 8192);
        desk.gives("len(" + ",".repeat(8190) + "len())", "0");
        desk.fails("len(" + ",".repeat(8191) + "len())", 40, 1, 4 + 8191 + 4);
        desk.gives("define(`e',`')len(" + ",".repeat(8191) + "e)", "0");
        desk.gives("len(len(" + ",".repeat(8190) + ")" + ",".repeat(8191) + ")", "1");
    }

    private static void meanings(Desk desk) {
        String three = "pushdef(`a',`')".repeat(300);
        Mill mill = desk.gives(three, "");
        desk.same("told(2) of 300 meanings", mill.told(2), 300);
        mill = desk.fails(three + "pushdef(`a',`x')", 40, 1);
        desk.same("told(2) of more than 300 meanings", mill.told(2), 300);
        desk.same("told(3) of more than 300 meanings", mill.told(3), 300);
        desk.gives(three + "define(`a',`x')a", "x");
        desk.fails(three + "define(`len',`x')", 40, 1);
        desk.fails(three + "define(`b',`x')", 40, 1);
        desk.gives(three + "popdef(`a')define(`len',`x')len", "x");
        desk.gives(three + "undefine(`a')" + three + "popdef(`a')define(`b',`y')b", "y");
        String different = "define(`d',`define(`n'$1,``$1;'')ifelse($1,$2,,`d(incr($1),$2)')')";
        mill = desk.gives(different + "d(0,298)n0 n17 n298 n299", "0; 17; 298; n299");
        desk.same("told(2) of 300 different names", mill.told(2), 300);
        desk.same("run with 301 different names", Desk.fed(different + "d(0,299)").run(Desk.MUCH), 40);

        String a = "define(`a',`" + "x".repeat(8191) + "')";
        String b = "define(`b',`" + "x".repeat(8191) + "')";
        mill = desk.gives(a + b, "");
        desk.same("told(3) of all bytes", mill.told(3), 16384);
        mill = desk.fails(a + b + "define(`c')", 40, 1);
        desk.same("told(2) behind the bytes' end", mill.told(2), 2);
        desk.same("told(3) behind the bytes' end", mill.told(3), 16384);
        desk.gives(a + b + a + "popdef(`a')define(`c',`y')c", "y");
        desk.fails(a + "define(`b',`" + "x".repeat(8192) + "')", 40, 1);
        mill = desk.fails(a + b + "define(`b',`" + "x".repeat(8192) + "')", 40, 1);
        desk.same("told(3) where the old meaning stays", mill.told(3), 16384);
        desk.fails(a + "define(`len',`" + "x".repeat(8190) + "')", 40, 1);
        desk.gives(a + "define(`len',`" + "x".repeat(8189) + "')", "");
    }

    private static void diversions(Desk desk) {
        String half = "a(" + "x ".repeat(2000) + ")";
        String full = "define(`a',`$1$1$1$1')" + half + half;
        String rest = "y".repeat(768);
        desk.gives(full + rest, "x ".repeat(16000) + rest);
        desk.fails(full + rest + "y", 40, 1, full.length() + 32000 + 769);
        desk.fails(full + "divert(7)" + rest + ".", 40, 1, full.length() + 32000 + 9 + 769);
        desk.fails("divert(2)" + full + "divert(7)" + rest + "." + "`z'", 40, 1, 9 + full.length() + 32000 + 9 + 769);
        desk.gives(full + rest + "`'divert(-1)more divert", "x ".repeat(16000) + rest);
        desk.gives("divert(1)" + full + "divert(2)undivert(1)divert(3)undivert`'" + rest + "`'divert(-1)zz",
                "x ".repeat(16000) + rest);
        desk.gives("divert(1)" + full + "divert(-1)undivert(1)divert(2)" + full, "x ".repeat(16000));
        desk.fails(full + "#" + rest + "\n", 40, 2, full.length() + 32000 + 770);
    }

    public static void main(String[] args) {
        Desk desk = new Desk();
        input(desk);
        held(desk);
        arguments(desk);
        meanings(desk);
        diversions(desk);
        desk.end();
    }
}
