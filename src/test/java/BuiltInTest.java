/** Promise 4, those built in, but for eval and for those of the rows. */
public final class BuiltInTest {
    public static void main(String[] args) {
        Checks checks = new Checks();
        define(checks);
        stacks(checks);
        conditions(checks);
        numbers(checks);
        texts(checks);
        shiftAndDnl(checks);
        withoutArguments(checks);
        checks.finish();
    }

    private static void define(Checks checks) {
        checks.gives("define(`f',`1')f define(`f',`2')f define(`f')f.", "1 2 .");
        checks.gives("define(`len',`mine')len(abc)", "mine");
        RescanDesk desk = new RescanDesk();
        checks.gives(desk, "define(`1a',`x')define(`a b',`x')define(`',`x')define(`a.',x)define", "");
        checks.gives(desk, "pushdef(`1a',`x')pushdef(`',`x')pushdef(`-',`x')pushdef", "");
        checks.same("count(4) after names that are none", desk.count(4), 16);
        checks.gives(desk, "define(`_',`u')define(`A1_',`v')_ A1_", "u v");
        checks.same("count(4) after two names", desk.count(4), 18);
    }

    private static void stacks(Checks checks) {
        RescanDesk desk = new RescanDesk();
        checks.gives(desk, "pushdef(`f',1)pushdef(`f',2)f define(`f',3)f popdef(`f')f", "2 3 1");
        checks.same("count(4)", desk.count(4), 17);
        checks.gives(desk, "pushdef(`f',2)pushdef(`g',5)pushdef(`f',3)f", "3");
        checks.same("count(4) with stacks", desk.count(4), 20);
        checks.same("count(5) with stacks", desk.count(5), 18);
        checks.gives(desk, "popdef(`f')f g popdef(`f')f popdef(`f')f popdef(`f')f g", "2 5 1 f f 5");
        checks.gives(desk, "pushdef(`g',6)pushdef(`g',7)undefine(`g')g undefine(`g')g", "g g");
        checks.same("count(4) at the end", desk.count(4), 16);
        checks.gives(desk, "pushdef(`len',`x')len(ab) popdef(`len')len(ab)", "x 2");
        checks.gives(desk, "undefine(`len')len(ab)popdef(`len')", "len(ab)");
        checks.same("count(5) without len", desk.count(5), 15);
        checks.gives(desk, "undefine(`define')define(`a',`b')", "define(a,b)");
        checks.same("count(5) without define", desk.count(5), 14);
    }

    private static void conditions(Checks checks) {
        checks.gives("ifdef(`len',y,n) ifdef(`nix',y,n) ifdef(`nix',y)ifdef(`len').", "y n .");
        checks.gives("ifdef(`',y,n) ifdef(`a b',y,n)", "n n");
        checks.gives("ifelse(a,a,y,n) ifelse(a,b,y,n) ifelse(a,b,y).", "y n .");
        checks.gives("ifelse(,,y) ifelse(a,ab,y,n) ifelse(ab,a,y,n) ifelse(ab,ac,y,n)", "y n n n");
        checks.gives("ifelse(a,b,c,d,e,f,g) ifelse(a,b,c,d,d,f,g)", "g f");
        checks.gives("ifelse(a,b,c,d,e)ifelse(a,b,c,d,d)ifelse(a,b,c,d,e,f)ifelse(a,b,c,d,d,f)", "f");
        checks.gives("ifelse(1,2,3,4,5,6,7,8,9)ifelse(1,2,3,4,5,6,7,7,9)", "9");
        checks.gives("ifelse(1,2,3,4,5,6,7,8)ifelse(1,2,3,4,4,6,7,7,9)", "6");
        checks.gives("ifelse(a,a,`len(xyz)')ifelse(a)ifelse(a,)ifelse().", "3.");
    }

    private static void numbers(Checks checks) {
        checks.gives("incr(0) incr(-1) incr(-2) incr(9) incr(007) incr(-0)", "1 0 -1 10 8 1");
        checks.gives("incr() incr(-) incr(+1) incr(1.) incr(`1 ') incr(--1) incr(a)", "1 1 1 1 1 1 1");
        checks.gives("incr(9223372036854775807)", "-9223372036854775808");
        checks.gives("incr(18446744073709551616) incr(18446744073709551615)", "1 0");
        checks.gives("incr(-9223372036854775809)", "-9223372036854775808");
        checks.gives("incr(999999999999999999) incr(1x1)", "1000000000000000000 1");
    }

    private static void texts(Checks checks) {
        checks.gives("len() len(a) len(`a,b') len(a,bc) len( abc )", "0 1 3 1 4");
        checks.gives("substr(abcdef,2,3) substr(abcdef,4) substr(abcdef,0,1)", "cde ef a");
        checks.gives("substr(abc,-1,2)substr(abc,3)substr(abc,4,1)substr(abc,1,0)substr(abc,1,-1).", ".");
        checks.gives("substr(abc,1,).substr(abc,,2).substr(abc).substr(abc,2,9)", ".ab.abc.c");
        checks.gives("substr(abc,1,9223372036854775807).substr(abc,9223372036854775807,1)", "bc.");
        checks.gives("substr(abc,4294967296,1).substr(abc,0,4294967297)", ".abc");
        checks.gives("index(banana,na) index(banana,nab) index(banana,a) index(ab,abc)", "2 -1 1 -1");
        checks.gives("index(abc,) index(,) index(,a) index(abc) index(aab,ab)", "0 0 -1 0 1");
        checks.gives("index(abc,c) index(abc,abc)", "2 0");
    }

    private static void shiftAndDnl(Checks checks) {
        checks.gives("shift(a,b,c).shift(a).shift().shift(a,`len',c)", "b,c...len,c");
        checks.gives("define(`f',`$#')f(shift(a,`b,c',d))f(shift(a))f(shift(a,))", "211");
        checks.gives("a dnl b\nc", "a c");
        checks.gives("a dnl b", "a ");
        checks.gives("a dnl(x)b\nc", "a c");
        checks.gives("a dnl\n\nc", "a \nc");
        checks.gives("define(`f',`1dnl')f 2\n3", "13");
    }

    private static void withoutArguments(Checks checks) {
        checks.gives("incr len index substr.shift.ifelse.ifdef.popdef.undefine.", "1 0 0 ......");
    }
}
