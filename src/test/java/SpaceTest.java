/** Promise 4, the error SPACE (2): each bound just kept, and just passed, and what is left then. */
public final class SpaceTest {
    private static final String X_100 = "x".repeat(100);

    public static void main(String[] args) {
        Checks checks = new Checks();
        rowsWhileWriting(checks);
        rowsThatAreAdded(checks);
        rowsAtTheEnd(checks);
        theFront(checks);
        theArguments(checks);
        callsAndArguments(checks);
        bodiesAndNames(checks);
        definitions(checks);
        checks.finish();
    }

    /** A desk on which h gives 98 characters, and two twice as many. */
    private static RescanDesk desk() {
        RescanDesk desk = new RescanDesk();
        Checks.run(desk, "define(`h',``" + ".".repeat(98) + "'')define(`two',`h`'h')");
        return desk;
    }

    private static void rowsWhileWriting(Checks checks) {
        RescanDesk desk = desk();
        String dots = ".".repeat(98) + " ";
        checks.gives(desk, "h h h 123", dots + dots + dots + "123");
        checks.same("count(0)", desk.count(0), 300);
        checks.same("run with a name that is cut", Checks.run(desk, "h h h abcdef!"), 2);
        checks.same("count(0)", desk.count(0), 300);
        checks.same("the last character", desk.output(0, 299), 'c');
        checks.same("count(8)", desk.count(8), 1);
        checks.same("run with a quote that is cut", Checks.run(desk, "h h h `1234567'89"), 2);
        checks.same("the last character", desk.output(0, 299), '3');
        checks.same("count(8)", desk.count(8), 2);
        checks.same("count(6)", desk.count(6), 10);
        checks.same("run with one more", Checks.run(desk, "h h h 1234"), 2);
        checks.same("count(8)", desk.count(8), 0);
        checks.same("run into none", Checks.run(desk, "divert(-1)h h h h h h h"), 0);
        checks.same("run into two rows", Checks.run(desk, "h h h divert(1)h h h `'divert(-1)`"), 3);
        checks.same("count(1)", desk.count(1), 297);
    }

    private static void rowsThatAreAdded(Checks checks) {
        RescanDesk desk = desk();
        checks.same("a row that fits", Checks.run(desk, "divert(1)1234`'divert(0)two`'h`'12undivert(1)`"), 3);
        checks.same("count(0)", desk.count(0), 300);
        checks.same("count(1)", desk.count(1), 0);
        String tooMuch = "divert(1)1234`'divert(0)two`'h`'123undivert(1)5";
        checks.same("a row that does not", Checks.run(desk, tooMuch), 2);
        checks.same("count(0)", desk.count(0), 297);
        checks.same("count(1)", desk.count(1), 4);
        checks.same("count(8)", desk.count(8), 1);
        String three = "divert(1)12`'divert(2)1234567`'divert(3)1`'divert(0)two`'h`'undivert`'5";
        checks.same("the second does not", Checks.run(desk, three), 2);
        checks.same("count(0)", desk.count(0), 296);
        checks.same("count(1)", desk.count(1), 0);
        checks.same("count(2)", desk.count(2), 7);
        checks.same("count(3)", desk.count(3), 1);
    }

    private static void rowsAtTheEnd(Checks checks) {
        RescanDesk desk = desk();
        String fits = "two`'h`'divert(1)123`'divert(2)12`'divert(3)1";
        checks.same("rows that fit", Checks.run(desk, fits), 0);
        checks.same("count(0)", desk.count(0), 300);
        checks.same("count(9)", desk.count(9), 0);
        String steps = "two`'h`'divert(1)123`'divert(2)1234`'divert(3)1";
        checks.same("the second does not", Checks.run(desk, steps), 2);
        checks.same("count(0)", desk.count(0), 297);
        checks.same("count(1)", desk.count(1), 0);
        checks.same("count(2)", desk.count(2), 4);
        checks.same("count(3)", desk.count(3), 1);
        checks.same("count(9)", desk.count(9), 3);
    }

    private static void theFront(Checks checks) {
        RescanDesk desk = new RescanDesk();
        Checks.run(desk, "define(`f',`$1$1$1$1$1$1')");
        checks.same("72", Checks.run(desk, "f(f(12))"), 0);
        checks.same("count(0)", desk.count(0), 72);
        String hundred = "f(`" + X_100 + "')";
        checks.same("600", Checks.run(desk, hundred, 3), 1);
        checks.same("count(8)", desk.count(8), 600);
        checks.same("601", Checks.run(desk, hundred + "!"), 2);
        checks.same("count(8) after 601", desk.count(8), 1);
        checks.same("count(6) after 601", desk.count(6), 3);
        checks.same("606", Checks.run(desk, "f(`" + X_100 + "x')ab"), 2);
        checks.same("count(8) after 606", desk.count(8), 2);
        checks.same("606 at the end", Checks.run(desk, "f(`" + X_100 + "x')"), 2);
        checks.same("row 0", Checks.row(desk, 0), "");
        Checks.run(desk, "define(`a',`$@$@$@$@$@$@$@$@$@$@$@$@$@$@')");
        checks.same("far above", Checks.run(desk, "a(`" + X_100 + "',`" + X_100 + "')abc"), 2);
        checks.same("count(8) far above", desk.count(8), 3);
    }

    private static void theArguments(Checks checks) {
        RescanDesk desk = desk();
        String outer = "len(two`'two`'";
        checks.same("400 in one", Checks.run(desk, outer + "12345678)"), 0);
        checks.same("row 0", Checks.row(desk, 0), "400");
        checks.same("401 in one", Checks.run(desk, outer + "123456789)"), 2);
        checks.same("count(8)", desk.count(8), 1);
        checks.same("400 in two", Checks.run(desk, outer + "len(12345,`678'))"), 0);
        checks.same("row 0", Checks.row(desk, 0), "393");
        checks.same("401 in two", Checks.run(desk, outer + "len(12345,`6789'))"), 2);
        checks.same("count(8)", desk.count(8), 2);
        checks.same("again and again", Checks.run(desk, "len(two)len(two)len(two)"), 0);
        checks.same("a bracket", Checks.run(desk, outer + "12345678()"), 2);
        checks.same("row 0", Checks.row(desk, 0), "");
    }

    private static void callsAndArguments(Checks checks) {
        RescanDesk desk = new RescanDesk();
        checks.gives(desk, "len(".repeat(12) + ")".repeat(12), "1");
        checks.same("count(7)", desk.count(7), 12);
        checks.same("13 calls", Checks.run(desk, "len(".repeat(13) + ")".repeat(13)), 2);
        checks.same("count(7)", desk.count(7), 12);
        checks.same("count(8)", desk.count(8), 13);
        checks.same("count(6)", desk.count(6), 13);
        checks.gives(desk, "len(".repeat(11) + "len" + ")".repeat(11), "1");
        checks.gives(desk, "len(ab,,,,,,,,)", "2");
        checks.same("10 arguments", Checks.run(desk, "len(ab,,,,,,,,,)"), 2);
        checks.same("count(8)", desk.count(8), 1);
        checks.gives(desk, "len((,,,,,,,,,,))", "12");
    }

    private static void bodiesAndNames(Checks checks) {
        checks.gives("define(`f',`" + X_100 + "')f", X_100);
        for (String name : new String[] {"define", "pushdef"}) {
            RescanDesk desk = new RescanDesk();
            checks.errs(desk, "." + name + "(`f',`" + X_100 + "x')f", 2, ".");
            checks.same("count(4)", desk.count(4), 16);
            checks.same("count(8)", desk.count(8), 1);
            checks.gives(desk, name + "(`abcdefghijkl',`y')abcdefghijkl abcdefghijklm", "y abcdefghijklm");
            checks.errs(desk, "." + name + "(`abcdefghijklm',`y')", 2, ".");
            checks.same("count(4)", desk.count(4), 17);
            checks.gives(desk, name + "(`1bcdefghijklm',`y')" + name + "(`1',`" + X_100 + "x').", ".");
            checks.errs(desk, "define(`len',`" + X_100 + "x')", 2, "");
            checks.gives(desk, "len(ab)", "2");
        }
        checks.gives("ifdef(`abcdefghijklm',y,n).popdef(`abcdefghijklm')undefine(`abcdefghijklm')", "n.");
    }

    private static void definitions(Checks checks) {
        RescanDesk desk = new RescanDesk();
        Checks.run(desk, "define(`p',`pushdef(`f',`$1')')");
        for (int i = 0; i < 43; i++) {
            checks.same("p(" + i + ")", Checks.run(desk, "p(" + i + ")"), 0);
        }
        checks.same("count(4)", desk.count(4), 60);
        checks.same("count(5)", desk.count(5), 18);
        checks.errs(desk, ".p(43)f", 2, ".");
        checks.errs(desk, ".define(`g',1)g", 2, ".");
        checks.same("count(4)", desk.count(4), 60);
        checks.gives(desk, "f define(`f',new)f popdef(`f')f define(`g',2)g", "42 new 41 2");
        checks.same("count(4)", desk.count(4), 60);
        checks.gives(desk, "undefine(`f')f", "f");
        checks.same("count(4)", desk.count(4), 18);
    }
}
