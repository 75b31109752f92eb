/** Promise 5: tokens, quotes, names and what is put back. */
public final class RunTokensTest {
    public static void main(String[] args) {
        Desk desk = new Desk();
        desk.gives("", "");
        desk.gives("plain text, (no) macros; 12 + x\n", "plain text, (no) macros; 12 + x\n");
        desk.gives("`a' ``b'' ```c''' `'", "a `b' ``c'' ");
        desk.gives("`a`b'c`d`e'f'g'h", "a`b'c`d`e'f'gh");
        desk.gives("' a '", "' a '");
        desk.gives("define(`x',`y')x x1 1x _x x_ `x' x.x", "y x1 1y _x x_ x y.y");
        desk.gives("define(`_a9',`y')_a9 a9", "y a9");
        desk.gives("define(`x',`y')#x `x\nx#x", "#x `x\ny#x");
        desk.gives("define(`x',`y')`#'x #", "#y #");
        desk.gives("len(#,)(\n)len(`#,')", "52");
        desk.gives("define(`ab',`Z')define(`x',`a')x`'b xb", "ab xb");
        desk.gives("define(`ab',`Z')define(`x',`a')define(`y',`x')y", "a");
        desk.gives("define(`ab',`Z')define(`x',`$1')x(a)b", "Z");
        desk.gives("define(`x',`len(')x abc)", "3");
        desk.gives("define(`x',`#')x`a' b\nc", "#`a' b\nc");
        desk.gives("define(`x',``'x1')x", "x1");
        desk.gives("define(`q',`changequote(<,>)')q<a>`b'", "a`b'");

        desk.gives("changequote(`[',`]')[a[b]c]`d'", "a[b]c`d'");
        desk.gives("changequote(`\"',`\"')\"a\"b\"c\"", "abc");
        desk.gives("changequote(<<,>>)<<a<b<<c>>>d>>", "a<b<<c>>>d");
        desk.gives("changequote(<,<<)<a<b<<c<<d", "a<b<<cd");
        desk.gives("changequote(<<,<)<<a<b", "ab");
        desk.gives("changequote(<<<<,>>>>)<<<<a>>>>b<<<c>>>", "ab<<<c>>>");
        desk.gives("changequote([,])changequote`a'", "a");
        desk.gives("changequote([,],x)[a]", "a");
        desk.gives("changequote(\u00e4,\u0000)\u00e4len\u0000(1)", "len(1)");
        desk.gives("changequote($,-)$len-(1)", "len(1)");
        desk.gives("changequote([,])changequote(['],[`])'a`b", "ab");
        String[] bad = {"changequote()", "changequote([)", "changequote([,)", "changequote(,])", "changequote(`',`')",
            "changequote(a,])", "changequote([,9)", "changequote(_,])", "changequote([,`(')", "changequote([,`)')",
            "changequote(`,',])", "changequote(`#',])", "changequote([,` ')", "changequote([,`]\n')",
            "changequote([[[[[,])", "changequote([,]]]]])", "changequote([,`]\t')", "changequote([,`\u000b')",
            "changequote([,`\f')", "changequote([,`\r')", "changequote([,`]Z')"};
        for (String text : bad) {
            desk.fails(text, 37, text.contains("\n") ? 2 : 1);
        }
        desk.fails("changequote([,])[a", 32, 1);
        desk.fails("`a`b'", 32, 1);
        desk.end();
    }
}
