/** Promise 4, the rows: divert, undivert, divnum, and how they are put together. */
public final class RowsTest {
    public static void main(String[] args) {
        Checks checks = new Checks();
        joining(checks);
        choosing(checks);
        undiverting(checks);
        fromRunToRun(checks);
        insideOfCalls(checks);
        checks.finish();
    }

    private static void joining(Checks checks) {
        RescanDesk desk = new RescanDesk();
        checks.gives(desk, "divert(3)c divert(2)b divert(1)a divert(0)z divert(3)d", "z a b c d");
        for (int r = 1; r < 4; r++) {
            checks.same("count(" + r + ")", desk.count(r), 0);
        }
        checks.same("count(9)", desk.count(9), 0);
        checks.gives(desk, "a divert(-1)b", "a ");
        checks.same("count(9) after none", desk.count(9), 0);
    }

    private static void choosing(Checks checks) {
        checks.gives("divnum divert(2)divnum divert(3)divnum", "0 2 3");
        checks.gives("divert(4)lost`'divert(1)divnum", "1");
        checks.gives("divert(2)divert`'divnum", "0");
        checks.gives("divert(2)divert()divnum", "0");
        checks.gives("divert(2)divert(x)divnum", "0");
        checks.gives("divert(01)divnum", "1");
        checks.gives("divert(4294967297)lost", "");
        checks.gives("define(`f',`<$1>')divert(-1)f(divnum)divert(0,1)f(divnum)", "<0>");
        checks.gives("define(`f',`define(`g',$1)')divert(-1)f(divnum)divert`'g", "-1");
    }

    private static void undiverting(Checks checks) {
        checks.gives("divert(1)a`'divert(2)b`'divert(3)c`'divert(0)undivert(3)undivert(1).", "ca.b");
        checks.gives("divert(1)a`'divert(3)c`'divert(2)b`'undivert`'d`'divert(0).", ".bacd");
        checks.gives("divert(1)a`'undivert(1)b`'undivert`'c", "abc");
        checks.gives("divert(1)a`'divert(2)b`'divert(-1)undivert(1)divert(0).", ".b");
        checks.gives("divert(1)a`'divert(2)b`'divert(-1)undivert`'divert(0).", ".");
        checks.gives("x divert(1)a`'undivert(0)undivert(4)undivert(-1)undivert()b", "x ab");
        checks.gives("divert(1)a`'divert(0)undivert()undivert(x).undivert`'!", ".a!");
        checks.gives("divert(1)len(abc)`len'divert(0)undivert(1)(x)", "3len(x)");
    }

    private static void fromRunToRun(Checks checks) {
        RescanDesk desk = new RescanDesk();
        checks.errs(desk, "define(`f',`F')zero`'divert(2)two`'divert(1)one(f`", 3, "zero");
        checks.same("row 1", Checks.row(desk, 1), "one(F");
        checks.same("row 2", Checks.row(desk, 2), "two");
        checks.same("row 3", Checks.row(desk, 3), "");
        checks.same("count(9)", desk.count(9), 1);
        checks.errs(desk, "divert(-1)x`", 3, "");
        checks.same("count(9) without a row", desk.count(9), RescanDesk.NONE);
        checks.same("count(2)", desk.count(2), 0);
        checks.gives(desk, "f", "F");
    }

    private static void insideOfCalls(Checks checks) {
        checks.gives("divert(1)a`'divert(0)len(undivert(1)xy)", "a2");
        checks.gives("len(divert(2)xy)z`'divert(0).", ".2z");
    }
}
