/** Promise 4, what a step reads: quotes, names, calls with their arguments, other characters. */
public final class ReadingTest {
    public static void main(String[] args) {
        Checks checks = new Checks();
        quotes(checks);
        names(checks);
        bracketsAndCommas(checks);
        blanks(checks);
        definitionsAreThoseOfTheName(checks);
        readAgain(checks);
        stepsAreCounted(checks);
        checks.finish();
    }

    private static void quotes(Checks checks) {
        checks.gives("`a'", "a");
        checks.gives("``a''", "`a'");
        checks.gives("`a`b'c`'d'e", "a`b'c`'de");
        checks.gives("a''b", "a''b");
        checks.gives("`len(abc)'", "len(abc)");
        checks.gives("`'", "");
        checks.gives("len(`(,)')", "3");
    }

    private static void names(Checks checks) {
        RescanDesk desk = new RescanDesk();
        checks.gives(desk, "define(`_a9',`[$#]')define(`Z',`z')", "");
        checks.gives(desk, "_a9 _a9( _a9() ) _a9(,)", "[0] [1] [2]");
        checks.gives(desk, "_a9_ x_a9 1_a9 _a9.Z z ZZ", "_a9_ x_a9 1[0] [0].z z ZZ");
        checks.gives(desk, "_a9 (1)", "[0] (1)");
        checks.gives(desk, "Z`'Z Z`Z'", "zz zZ");
        checks.gives(desk, "define(`azAZ_09',`y')azAZ_09@azAZ_09[azAZ_09{azAZ_09/azAZ_09:", "y@y[y{y/y:");
        checks.gives(desk, "define(`z0',`y')z0 zz0 z00", "y zz0 z00");
    }

    private static void bracketsAndCommas(Checks checks) {
        checks.gives("(a,b))", "(a,b))");
        RescanDesk desk = new RescanDesk();
        checks.gives(desk, "define(`f',`<$1|$2|$#>')", "");
        checks.gives(desk, "f((a,b),c)", "<(a,b)|c|2>");
        checks.gives(desk, "f(((,)(,)),)", "<((,)(,))||2>");
        checks.gives(desk, "f(x(y)z)", "<x(y)z||1>");
        checks.gives(desk, "f(`)',`(')", "<)|(|2>");
        checks.gives(desk, "f(f(1),f)", "<<1||1>|<||0>|2>");
        checks.gives(desk, "f(1)(2)", "<1||1>(2)");
        checks.gives(desk, "f(1,2,3,4,5,6,7,8,9)", "<1|2|9>");
    }

    private static void blanks(Checks checks) {
        RescanDesk desk = new RescanDesk();
        checks.gives(desk, "define(`f',`<$1|$2>')define(`e')", "");
        checks.gives(desk, "f( a b , \n c\n)", "<a b |c\n>");
        checks.gives(desk, "f(`' a, ` 'b)", "< a| b>");
        checks.gives(desk, "f(e a,e b)", "< a| b>");
        checks.gives(desk, "f( e a, e() b)", "< a| b>");
        checks.gives(desk, "f(\ta, ( b))", "<\ta|( b)>");
        checks.gives(desk, " a  b \n", " a  b \n");
    }

    private static void definitionsAreThoseOfTheName(Checks checks) {
        checks.gives("define(`f',`old$1')f(define(`f',`new')f).f", "oldnew.new");
        checks.gives("define(`f',`old$1')f(undefine(`f')f).f", "oldf.f");
        checks.gives("define(`f',`<$0>')f(popdef(`f')define(`g',`G')g)", "<f>");
        checks.gives("define(`f',`old$1')f(undefine(`f')define(`h',`H')h)", "oldH");
    }

    private static void readAgain(Checks checks) {
        checks.gives("define(`a',`b')define(`b',`c')a", "c");
        checks.gives("define(`a',`le')a`'n", "len");
        checks.gives("define(`a',`le')define(`b',`a`'')b()n(xy)", "len(xy)");
        checks.gives("define(`a',`len')a()(xy)", "2");
        checks.gives("define(`a',`len(')a()xy)", "2");
        checks.gives("define(`a',``len(x)'')a", "len(x)");
        checks.gives("define(`a',`dnl')x a() yz\nw", "x w");
    }

    private static void stepsAreCounted(Checks checks) {
        steps(checks, "", 0);
        steps(checks, "abc", 1);
        steps(checks, "123", 3);
        steps(checks, "`12`3'4'", 1);
        steps(checks, "len", 2);
        steps(checks, "len()", 3);
        steps(checks, "len( \n`abc',)", 7);
        steps(checks, "dnl abc", 1);
        steps(checks, "dnl abc\n.", 2);
        steps(checks, "eval(7+8)", 7);
    }

    private static void steps(Checks checks, String text, int due) {
        RescanDesk desk = new RescanDesk();
        checks.same("run of " + text, Checks.run(desk, text, due), 0);
        checks.same("count(6) after " + text, desk.count(6), due);
        if (due > 0) {
            checks.same("run of " + text + " a step short", Checks.run(desk, text, due - 1), 1);
            checks.same("count(6) a step short", desk.count(6), due - 1);
        }
    }
}
