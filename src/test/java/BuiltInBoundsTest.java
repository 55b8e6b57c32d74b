/** Promise 4, the edges of bodies and of those built in: a method for each sentence. */
public final class BuiltInBoundsTest {
    private static final String[] NO_NAMES = {"", "1a", "a b", "a.", " a", "-", "\u00e9", "0", "a\n"};

    public static void main(String[] args) {
        Checks checks = new Checks();
        argumentsThatThereAreNot(checks);
        allElseStands(checks);
        howManyArguments(checks);
        defineOnlyNames(checks);
        defineTheTopmostOrTheOnlyOne(checks);
        pushdefOnTop(checks);
        popdefTheTopmost(checks);
        undefineAll(checks);
        ifdefOtherwise(checks);
        ifelseWithSomeArguments(checks);
        incrGoesRound(checks);
        lenOfNothingAndOfAll(checks);
        substrFromAPlace(checks);
        substrSoMany(checks);
        indexOrNone(checks);
        shiftOfFew(checks);
        dnlToTheNext10(checks);
        dnlWithout10(checks);
        valuesOfTexts(checks);
        valuesGoRound(checks);
        valuesWithoutNeedless0(checks);
        moreArgumentsThanAreAskedFor(checks);
        insideOfAnArgument(checks);
        checks.finish();
    }

    /** "(Arguments that there are not are empty.)" */
    private static void argumentsThatThereAreNot(Checks checks) {
        RescanDesk desk = new RescanDesk();
        checks.gives(desk, "define(`f',`<$1$2$9>[$*][$@]')f", "<>[][]");
        checks.gives(desk, "f()", "<>[][]");
        checks.gives(desk, "f(a)", "<a>[a][a]");
        checks.gives(desk, "f(,,,,,,,,i)", "<i>[,,,,,,,,i][,,,,,,,,i]");
        checks.gives("define(`f',``$@'')f f() f(,)", " `' `',`'");
    }

    /** "all else stands as it is." */
    private static void allElseStands(Checks checks) {
        RescanDesk desk = new RescanDesk();
        checks.gives(desk, "define(`f',`$')f(x)", "$");
        checks.gives(desk, "define(`f',`$$')f(x)", "$$");
        checks.gives(desk, "define(`f',`$$1')f(x)", "$x");
        checks.gives(desk, "define(`f',`$1$')f(x)", "x$");
        checks.gives(desk, "define(`f',`$10$01')f(x)", "x0f1");
        checks.gives(desk, "define(`f',`$/$:$!$a$ $\t1')f(x)", "$/$:$!$a$ $\t1");
        checks.gives(desk, "define(`f',`')f(x)f", "");
        checks.gives("$1$#$", "$1$#$");
    }

    /** "$# how many arguments there are" */
    private static void howManyArguments(Checks checks) {
        RescanDesk desk = new RescanDesk();
        Checks.run(desk, "define(`f',`$#')");
        checks.gives(desk, "f", "0");
        checks.gives(desk, "f()", "1");
        checks.gives(desk, "f( )", "1");
        for (int commas = 1; commas <= 8; commas++) {
            checks.gives(desk, "f(" + ",".repeat(commas) + ")", "" + (commas + 1));
        }
    }

    /** "define: if a is a NAME" */
    private static void defineOnlyNames(Checks checks) {
        for (String word : new String[] {"define", "pushdef"}) {
            RescanDesk desk = new RescanDesk();
            for (String name : NO_NAMES) {
                checks.gives(desk, word + "(`" + name + "',x)", "");
            }
            checks.gives(desk, word, "");
            checks.gives(desk, word + "()", "");
            checks.same("count(4) after " + word + " of no names", desk.count(4), 16);
        }
    }

    /** "its topmost definition becomes the body b (its only one, if it had none)." */
    private static void defineTheTopmostOrTheOnlyOne(Checks checks) {
        RescanDesk desk = new RescanDesk();
        checks.gives(desk, "define(`f',1)f", "1");
        checks.same("count(4) with a first one", desk.count(4), 17);
        checks.gives(desk, "define(`f',2)f", "2");
        checks.same("count(4) with another one", desk.count(4), 17);
        checks.gives(desk, "pushdef(`f',3)define(`f',4)f popdef(`f')f", "4 2");
        checks.gives(desk, "define(`f')<f>define(`f',a,b)<f>", "<><a>");
        checks.gives(desk, "define(`len',5)len(ab)popdef(`len')len", "5len");
        checks.same("count(4) without len", desk.count(4), 16);
    }

    /** "pushdef: b becomes one more, on top." */
    private static void pushdefOnTop(Checks checks) {
        RescanDesk desk = new RescanDesk();
        checks.gives(desk, "pushdef(`f',1)pushdef(`f')<f>", "<>");
        checks.gives(desk, "pushdef(`len',2)len(ab)", "2");
        checks.counts(desk, "after pushdef", 1, 0, 0, 0, 19, 17);
    }

    /** "popdef: the topmost one of a goes." */
    private static void popdefTheTopmost(Checks checks) {
        RescanDesk desk = new RescanDesk();
        checks.gives(desk, "popdef`'popdef()popdef(`nix')popdef(`a b')popdef(`" + "n".repeat(50) + "')", "");
        checks.same("count(4) after popdef of none", desk.count(4), 16);
        checks.gives(desk, "define(`f',1)popdef(`f')f popdef(`f')f", "f f");
        checks.gives(desk, "popdef(`popdef')popdef(`len')len(ab)", "popdef(len)2");
        checks.counts(desk, "without popdef", 12, 0, 0, 0, 15, 15);
    }

    /** "undefine: all of a go." */
    private static void undefineAll(Checks checks) {
        RescanDesk desk = new RescanDesk();
        checks.gives(desk, "undefine`'undefine()undefine(`nix')undefine(`" + "n".repeat(50) + "')", "");
        checks.same("count(4) after undefine of none", desk.count(4), 16);
        checks.gives(desk, "pushdef(`len',1)pushdef(`len',2)undefine(`len')len", "len");
        checks.counts(desk, "without len", 3, 0, 0, 0, 15, 15);
        checks.gives(desk, "define(`f',1)pushdef(`g',2)pushdef(`f',3)undefine(`f')f g", "f 2");
    }

    /** "ifdef: b, if a has definitions, otherwise c." */
    private static void ifdefOtherwise(Checks checks) {
        checks.gives("ifdef(`len',y,n) ifdef(`nix',y,n) ifdef(`',y,n) ifdef(`1',y,n)", "y n n n");
        checks.gives("ifdef(`len')ifdef(`nix',y)ifdef()ifdef.", ".");
        checks.gives("define(`f')ifdef(`f',y,n) popdef(`f')ifdef(`f',y,n)", "y n");
        checks.gives("pushdef(`f')pushdef(`f')popdef(`f')ifdef(`f',y,n)", "y");
    }

    /** "otherwise, with five arguments or more, the same ...; otherwise the 4th." */
    private static void ifelseWithSomeArguments(Checks checks) {
        // No two are equal, so it is the 4th of four, or what is that of those left.
        String[] due = {"", "", "", "4", "", "", "7", "", ""};
        for (int many = 1; many <= 9; many++) {
            String arguments = "1,2,3,4,5,6,7,8,9".substring(0, 2 * many - 1);
            checks.gives("<ifelse(" + arguments + ")>", "<" + due[many - 1] + ">");
        }
        checks.gives("<ifelse><ifelse()><ifelse(,)><ifelse(1)>", "<><><><>");
        checks.gives("<ifelse(,,y)><ifelse(1,1,y)><ifelse(1,1,y,n)><ifelse(1,1)>", "<y><y><y><>");
        checks.gives("<ifelse(1,2,y,n)><ifelse(1,2,y,)><ifelse(1,,y,n)>", "<n><><n>");
        checks.gives("<ifelse(1,2,a,)><ifelse(1,2,a,,)><ifelse(1,2,a,,,b)>", "<><><b>");
        checks.gives("<ifelse(1,2,3,4,4,6)><ifelse(1,2,3,4,5,6,7,7,9)>", "<6><9>");
        checks.gives("<ifelse(1,2,3,4,5,6,7,7)><ifelse(1,2,3,4,5,6,7,)>", "<><>");
        checks.gives("<ifelse(1,2,3,4,5,6,,)><ifelse(1,2,3,4,5,6,,,9)>", "<><9>");
    }

    /** "incr: a's VALUE + 1", "going round at 64 bits" */
    private static void incrGoesRound(Checks checks) {
        checks.gives("incr(9223372036854775806)", "9223372036854775807");
        checks.gives("incr(9223372036854775807)", "-9223372036854775808");
        checks.gives("incr(-9223372036854775808)", "-9223372036854775807");
        checks.gives("incr(-1) incr(0) incr() incr", "0 1 1 1");
    }

    /** "len: how many characters a has." */
    private static void lenOfNothingAndOfAll(Checks checks) {
        checks.gives("len len() len( ) len(`') len(` ') len(,a)", "0 0 0 0 1 0");
        RescanDesk desk = new RescanDesk();
        Checks.run(desk, "define(`h',`" + "1".repeat(100) + "')");
        checks.gives(desk, "len(h`'h`'h`'h)", "400");
    }

    /** "substr: from place b's value of a on", "(nothing if the place is below 0; ...)" */
    private static void substrFromAPlace(Checks checks) {
        checks.gives("<substr(abc,-1)><substr(abc,-1,2)><substr(abc,-3)>", "<><><>");
        checks.gives("<substr(abc,0)><substr(abc,2)><substr(abc,3)><substr(abc,4)>", "<abc><c><><>");
        checks.gives("<substr(abc)><substr(abc,)><substr(abc,x)><substr><substr()>", "<abc><abc><abc><><>");
        checks.gives("<substr(abc,2147483648)><substr(abc,4294967296)>", "<><>");
        checks.gives("<substr(abc,-4294967295)><substr(abc,4294967297)>", "<><>");
        checks.gives("<substr(abc,9223372036854775807)><substr(abc,9223372036854775808)>", "<><>");
        checks.gives("<substr(abc,18446744073709551617)>", "<bc>");
    }

    /** "c's value many, as far as there are such", "all behind it with less than three arguments" */
    private static void substrSoMany(Checks checks) {
        checks.gives("<substr(abc,1,0)><substr(abc,1,1)><substr(abc,1,2)><substr(abc,1,3)>", "<><b><bc><bc>");
        checks.gives("<substr(abc,1,-1)><substr(abc,1,)><substr(abc,1,x)><substr(abc,3,1)>", "<><><><>");
        checks.gives("<substr(abc,1,4294967296)><substr(abc,1,-4294967295)>", "<bc><>");
        checks.gives("<substr(abc,1,9223372036854775807)><substr(abc,1,9223372036854775808)>", "<bc><>");
        checks.gives("<substr(abc,9223372036854775807,9223372036854775807)>", "<>");
        checks.gives("<substr(abc,1)><substr(abc,1,1,9)>", "<bc><b>");
    }

    /** "index: the least place (from 0) at which b stands in a, or -1." */
    private static void indexOrNone(Checks checks) {
        checks.gives("index(abc,a) index(abc,c) index(abc,abc) index(abc,d)", "0 2 0 -1");
        checks.gives("index(abc,abcd) index(abc,bcd) index(aab,ab) index(abab,ab)", "-1 -1 1 0");
        checks.gives("index(abc,) index(abc) index(,) index() index", "0 0 0 0 0");
        checks.gives("index(,a) index(a,aa) index(abcb,cb)", "-1 -1 2");
    }

    /** "shift: all arguments but the first, as with $@." */
    private static void shiftOfFew(Checks checks) {
        checks.gives("<shift><shift()><shift(a)><shift(,)><shift(a,b)>", "<><><><><b>");
        checks.gives("<shift(1,2,3,4,5,6,7,8,9)>", "<2,3,4,5,6,7,8,9>");
        checks.gives("define(`f',`$#')f(shift) f(shift(a)) f(shift(a,)) f(shift(a,`b,c'))", "1 1 1 1");
        checks.gives("define(`f',``$1'')f(shift(a,``len(x)''))", "`len(x)'");
    }

    /** "dnl: all up to the next 10, and that, is taken from the front" */
    private static void dnlToTheNext10(Checks checks) {
        checks.gives("dnl\na", "a");
        checks.gives("dnl\n\na", "\na");
        checks.gives("dnl`\n'a", "'a");
        checks.gives("dnl()b\na", "a");
        checks.gives("len(xdnl`'dnl ),y\n)", "4");
        checks.gives("dnl" + ".".repeat(200) + "\na", "a");
        // The text that an expansion puts before the front is part of it.
        checks.gives("define(`f',`dnl a\nb')f c", "b c");
        checks.gives("define(`f',`dnl')f c\nd", "d");
    }

    /** "(all, if there is no 10)." */
    private static void dnlWithout10(Checks checks) {
        checks.gives("a dnl", "a ");
        checks.gives("a dnl b`", "a ");
        checks.gives("a dnl()", "a ");
        checks.ends(new RescanDesk(), "len(dnl)", 4, 0);
    }

    /** "if it is a - or none and then digits, one or more; otherwise 0." */
    private static void valuesOfTexts(Checks checks) {
        String[] none = {"", "-", "--1", "+1", "1-", "1 ", " 1", "1.", "1e1", "x", "0x1", "- 1", "1 1",
            "\u0661", "1\n", "-1-", "(1)", "/", ":", "1/", "1:"};
        for (String text : none) {
            checks.gives("incr(`" + text + "')", "1");
        }
        checks.gives("incr(5) incr(-5) incr(-0) incr(000) incr(007) incr(-007)", "6 -4 1 1 8 -6");
    }

    /** "The VALUE of a text: a whole number, going round at 64 bits" */
    private static void valuesGoRound(Checks checks) {
        checks.gives("incr(9223372036854775808)", "-9223372036854775807");
        checks.gives("incr(18446744073709551615) incr(18446744073709551616)", "0 1");
        checks.gives("incr(-9223372036854775809)", "-9223372036854775808");
        checks.gives("incr(-18446744073709551616) incr(-18446744073709551617)", "1 0");
        checks.gives("incr(1" + "0".repeat(64) + ")", "1");
        checks.gives("divert(18446744073709551617)divnum", "1");
    }

    /** "Values put before the front are such texts, without needless 0." */
    private static void valuesWithoutNeedless0(Checks checks) {
        checks.gives("incr(-1) incr(00) incr(-01) incr(09) incr(99) incr(-11)", "0 1 0 10 100 -10");
        checks.gives("eval(000) eval(-0) eval(010) eval(0-10) eval(10*10)", "0 0 10 -10 100");
        checks.gives("incr(999999999999999999)", "1000000000000000000");
        checks.gives("eval(0-9223372036854775807-1)", "-9223372036854775808");
    }

    private static void moreArgumentsThanAreAskedFor(Checks checks) {
        checks.gives("define(`f',1,2)f pushdef(`f',3,4)f popdef(`f',`f')f undefine(`f',`len')f len", "1 3 1 f 0");
        checks.gives("ifdef(`len',y,n,z) ifdef(`nix',y,n,z) ifdef(`nix',`nix',n,z)", "y n n");
        checks.gives("ifelse(1,1,y,n,z) ifelse(1,2,a,b,c,d,e)", "y e");
        checks.gives("incr(1,5) eval(1,/) len(a,bc) substr(abc,1,1,5) index(abc,b,c)", "2 1 1 b 1");
        checks.gives("divert(1,2)divnum(5,6)divert(0,1)undivert(2,1).undivert(1,2)", ".1");
        checks.gives("dnl(a,b)c\nd", "d");
    }

    /** The arguments of the call around, and that its gathering goes on, are of no matter. */
    private static void insideOfAnArgument(Checks checks) {
        RescanDesk desk = new RescanDesk();
        Checks.run(desk, "define(`i',``$1'|`$2'')");
        checks.gives(desk, "i(12,3define(`f',`$1$1')f(4)5)", "12|3445");
        checks.gives(desk, "i(12,3pushdef(`f',`<$2>')f(4,5)6)", "12|3<5>6");
        checks.gives(desk, "i(12,3popdef(`f')f(4)5)", "12|3445");
        checks.gives(desk, "i(12,3undefine(`f')`'f(4)5)", "12|3f(4)5");
        checks.gives(desk, "i(12,3ifdef(`len',4,5)ifdef(`12',6,7)8)", "12|3478");
        checks.gives(desk, "i(12,3ifelse(12,3,4,5)ifelse(6,6,7)8)", "12|3578");
        checks.gives(desk, "i(12,incr(3)eval(4+5)len(678))", "12|493");
        checks.gives(desk, "i(12,3substr(4567,1,2)index(89,9))", "12|3561");
        checks.gives(desk, "i(12,3shift(4,5)6)", "12|356");
        checks.gives(desk, "i(12,3divnum`'dnl(4)5\n6)", "12|306");
        checks.gives(desk, "i(12,3divert(1)4)5divert(0)i(6,7undivert(1)8)", "12|3456|78");
    }
}
