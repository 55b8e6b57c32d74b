import java.math.BigInteger;

/** Promise 4, eval, with the errors ZERO (5) and EXPRESSION (6). */
public final class ExpressionTest {
    public static void main(String[] args) {
        Checks checks = new Checks();
        values(checks);
        goingRound(checks);
        nesting(checks);
        errors(checks);
        oneBehindTheOther(checks);
        theLongestOnes(checks);
        theFewestSigns(checks);
        insideOf6Others(checks);
        fromTheLeftOn(checks);
        bothSidesAreReckoned(checks);
        towards0(checks);
        anExpressionFirst(checks);
        nothingIsPut(checks);
        checks.finish();
    }

    private static void is(Checks checks, String expression, String due) {
        checks.gives("eval(`" + expression + "')", due);
    }

    private static void values(Checks checks) {
        is(checks, "007", "7");
        is(checks, "1+2*3", "7");
        is(checks, "(1+2)*3", "9");
        is(checks, "10-4-3", "3");
        is(checks, "100/10/5*2", "4");
        is(checks, "7%4*2", "6");
        is(checks, "7/2", "3");
        is(checks, "(0-7)/2", "-3");
        is(checks, "-7%3", "-1");
        is(checks, "7%-3", "1");
        is(checks, "2*-3", "-6");
        is(checks, "2--3", "5");
        is(checks, "--3", "3");
        is(checks, "3>2>1", "0");
        is(checks, "3>2=1", "1");
        is(checks, "1=3>2", "0");
        is(checks, "1<2", "1");
        is(checks, "2<2", "0");
        is(checks, "2=2", "1");
        is(checks, "1+1<3", "1");
        is(checks, "5&2", "1");
        is(checks, "5&0", "0");
        is(checks, "0|7", "1");
        is(checks, "0|0", "0");
        is(checks, "1|0&0", "0");
        is(checks, "0&0|1", "1");
        is(checks, "1<2&3<2", "0");
        is(checks, "1 2\n+ 3", "15");
        is(checks, " ( 1 ) ", "1");
    }

    private static void goingRound(Checks checks) {
        is(checks, "9223372036854775807+1", "-9223372036854775808");
        is(checks, "9223372036854775808", "-9223372036854775808");
        is(checks, "18446744073709551617", "1");
        is(checks, "-9223372036854775808/-1", "-9223372036854775808");
        is(checks, "-9223372036854775808%-1", "0");
        is(checks, "-9223372036854775808-1", "9223372036854775807");
        is(checks, "4294967296*4294967296", "0");
    }

    private static void nesting(Checks checks) {
        is(checks, "((((((1))))))", "1");
        is(checks, "------1", "1");
        is(checks, "-(-(-(1)))", "-1");
        is(checks, "((((((1-2)))))) - -(2)", "1");
        is(checks, "(1)+(1)+(1)+(1)+(1)+(1)+(1)+(1)", "8");
        is(checks, "1-1-1-1-1-1-1-1-1", "-7");
        checks.errs("eval((((((((1))))))))", 6, "");
        checks.errs("eval(-------1)", 6, "");
        checks.errs("eval(-(-(-(-1))))", 6, "");
        checks.errs("eval(((((((-1)))))))", 6, "");
        checks.errs("eval(" + "(".repeat(100) + "1" + ")".repeat(100) + ")", 6, "");
    }

    /** What an earlier, longer expression left must not be read. */
    private static void oneBehindTheOther(Checks checks) {
        checks.gives("eval(12+34*5) eval(1) eval(1+3) eval(-(2)) eval(6)", "182 1 4 -2 6");
        RescanDesk desk = new RescanDesk();
        checks.errs(desk, "eval((1)+(2)) eval((1)+(2)", 4, "3 ");
        checks.errs(desk, "eval((1)+(2)) eval(`(1)+(2')", 6, "3 ");
        checks.errs(desk, "eval(1+2/1) eval(1+2/)", 6, "3 ");
        checks.errs(desk, "eval(1/0)", 5, "");
        checks.gives(desk, "eval(1/1)", "1");
    }

    private static void theLongestOnes(Checks checks) {
        RescanDesk desk = new RescanDesk();
        Checks.run(desk, "define(`n',`" + "1".repeat(100) + "')define(`m',`" + "1".repeat(99) + "+')");
        checks.gives(desk, "eval(n`'n`'n`'n)", "" + new BigInteger("1".repeat(400)).longValue());
        checks.errs(desk, "eval(n`'n`'n`'m)", 6, "");
    }

    private static void errors(Checks checks) {
        String[] wrong = {"", " ", "+", "+1", "1+", "1 + * 2", "()", "(1", "1)", "a", "1a", "1==1",
            "1<=2", "1&&1", "-", "1(2)", "(1)2", "1.", "!1", "*1", "2**3", "(1a", "(1(", "((1)", "1\t+1"};
        for (String expression : wrong) {
            checks.errs("x`'eval(`" + expression + "')y", 6, "x");
        }
        checks.errs("eval", 6, "");
        checks.errs("eval()", 6, "");
        String[] byZero = {"1/0", "1%0", "0/0", "1/(1-1)", "0&1/0", "1|1%0", "1/0/0", "5/(1/0)"};
        for (String expression : byZero) {
            checks.errs("x`'eval(`" + expression + "')y", 5, "x");
        }
        checks.errs("eval(1/0+)", 6, "");
        checks.errs("eval((1/0)", 4, "");
        checks.errs("eval(1/0 1/0a)", 6, "");
        checks.same("count(8) after ZERO", checks.errs("a eval(1/0)bc", 5, "a ").count(8), 2);
        checks.same("count(6) after ZERO", checks.errs("a eval(1/0)bc", 5, "a ").count(6), 7);
    }

    /** "EXPRESSION: a text that is none (also the empty one)" */
    private static void theFewestSigns(Checks checks) {
        for (char c : "0123456789".toCharArray()) {
            is(checks, "" + c, "" + c);
        }
        // Each sign alone, and the neighbours of the digits, are none.
        for (char c : "+-*/%<>=&|()/:,.!a_$\0\u0661".toCharArray()) {
            checks.errs("eval(`" + c + "')", 6, "");
            checks.errs("eval(`1" + c + "')", 6, "");
        }
        for (char c : "+*/%<>=&|)".toCharArray()) {
            checks.errs("eval(`" + c + "1')", 6, "");
            checks.errs("eval(`(" + c + "1)')", 6, "");
            checks.errs("eval(`1" + c + c + "1')", 6, "");
        }
        for (String blank : new String[] {"eval", "eval()", "eval( )", "eval(`')", "eval(` \n')", "eval(,1)"}) {
            checks.errs(blank, 6, "");
        }
    }

    /** "or with brackets or a - inside of 6 others." */
    private static void insideOf6Others(Checks checks) {
        // Every mixture of 5, 6 and 7 brackets and -, a bit of the number for each of them.
        for (int many = 5; many <= 7; many++) {
            for (int mixture = 0; mixture < 1 << many; mixture++) {
                String inside = nested(many, mixture);
                RescanDesk desk = new RescanDesk();
                String due = many > 6 ? "" : Integer.bitCount(mixture) % 2 == 0 ? "2" : "-2";
                checks.errs(desk, "eval(`" + inside + "')", many > 6 ? 6 : 0, due);
            }
        }
        is(checks, "((((((1))))))*------2", "2");
        is(checks, "((((((1-1-1-1))))))", "-2");
        is(checks, "------1-1-1", "-1");
        checks.errs("eval(`(((((1-(-1))))))')", 6, "");
        is(checks, "(((((1-(1))))))", "0");
    }

    private static String nested(int many, int mixture) {
        StringBuilder before = new StringBuilder();
        StringBuilder behind = new StringBuilder();
        for (int i = 0; i < many; i++) {
            boolean minus = (mixture >> i & 1) == 1;
            before.append(minus ? '-' : '(');
            behind.append(minus ? "" : ")");
        }
        return before + "2" + behind;
    }

    /** "those of one strength from the left on" */
    private static void fromTheLeftOn(Checks checks) {
        is(checks, "9-3+2", "8");
        is(checks, "9-3-2", "4");
        is(checks, "8/4*2", "4");
        is(checks, "8*3%5", "4");
        is(checks, "9%5*3", "12");
        is(checks, "2<1<1", "1");
        is(checks, "2=2=2", "0");
        is(checks, "5>4=1", "1");
        is(checks, "0=1<1", "1");
        is(checks, "1|1&0", "0");
        is(checks, "0&1|1", "1");
        is(checks, "1+2<3&1", "0");
        is(checks, "1<2+3", "1");
        is(checks, "1&2=2", "1");
        is(checks, "-2*-3", "6");
        is(checks, "-2+3", "1");
        is(checks, "-(2+3)", "-5");
    }

    /** "(not 0: 1 or 0, of both or of one; both sides are reckoned)" */
    private static void bothSidesAreReckoned(Checks checks) {
        is(checks, "-1&7", "1");
        is(checks, "7&0", "0");
        is(checks, "0&7", "0");
        is(checks, "0|-7", "1");
        is(checks, "-7|0", "1");
        is(checks, "0|0", "0");
        is(checks, "4294967296&4294967296", "1");
        checks.errs("eval(0&1/0)", 5, "");
        checks.errs("eval(1|1%0)", 5, "");
    }

    /** "a division (/ %, towards 0)" */
    private static void towards0(Checks checks) {
        is(checks, "7/2", "3");
        is(checks, "-7/2", "-3");
        is(checks, "7/-2", "-3");
        is(checks, "-7/-2", "3");
        is(checks, "7%2", "1");
        is(checks, "-7%2", "-1");
        is(checks, "7%-2", "1");
        is(checks, "-7%-2", "-1");
        is(checks, "0/5", "0");
        is(checks, "1/2", "0");
        is(checks, "-1/2", "0");
    }

    /** "ZERO: it is one, and a division is by 0." */
    private static void anExpressionFirst(Checks checks) {
        String[] none = {"1/0)", "(1/0", "1/0+", "1/0a", "1%0/", "1/0 1/", "1/0+((((((-1))))))", "1/0()"};
        for (String expression : none) {
            checks.errs("eval(`" + expression + "')", 6, "");
        }
        String[] byZero = {"0/0", "0%0", "1/(0)", "1/-0", "1/18446744073709551616", "1/0*0", "2%(1-1)"};
        for (String expression : byZero) {
            checks.errs("eval(`" + expression + "')", 5, "");
        }
    }

    private static void nothingIsPut(Checks checks) {
        checks.ends(new RescanDesk(), "eval(1/0)!", 5, 1);
        checks.ends(new RescanDesk(), "eval(1/)!", 6, 1);
    }
}
