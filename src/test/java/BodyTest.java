/** Promise 4, how a body is expanded. */
public final class BodyTest {
    public static void main(String[] args) {
        Checks checks = new Checks();
        body(checks, "$1$2$3$4$5$6$7$8$9", "f(1,2,3,4,5,6,7,8,9)", "123456789");
        body(checks, "$10", "f(a)", "a0");
        body(checks, "$3.", "f(a,b)", ".");
        body(checks, "`$0'", "f(x) f", "f f");
        body(checks, "ifelse($#,0,none,`$0')", "f(x)", "none");
        body(checks, "x$0", "f", "xf");
        body(checks, "$#", "f f() f(,) f(1,2,3,4,5,6,7,8,9)", "0 1 2 9");
        body(checks, "[$*]", "f f() f(a) f(`a,b',c)", "[] [] [a] [a,b,c]");
        body(checks, "`$*'", "f(`len',`x')", "len,x");
        body(checks, "len(`$@')", "f f() f(a) f(a,`len')", "0 2 3 9");
        body(checks, "len($@)", "f f() f(abc) f(`a,b',c)", "0 0 3 3");
        body(checks, "$ $$ $a $", "f", "$ $$ $a $");
        body(checks, "$$1", "f(x)", "$x");
        body(checks, "x$", "f", "x$");
        checks.gives("define(`f',`ab$1')f(q) define(`f',`ab$')f(q)", "abq ab$");
        body(checks, "x".repeat(99) + "$", "f(a)", "x".repeat(99) + "$");
        body(checks, "", "f(a)f.", ".");
        checks.gives("define(`f',`<$1>')f(``len'')", "<len>");
        checks.gives("define(`f',`$1')f(``len'(x)')", "len(x)");
        checks.finish();
    }

    private static void body(Checks checks, String body, String text, String due) {
        checks.gives("define(`f',`" + body + "')" + text, due);
    }
}
