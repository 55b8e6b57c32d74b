/** Promise 4, run itself: its fuel, FUEL (1), QUOTE (3), BRACKET (4), and what a run leaves. */
public final class ErrorsTest {
    public static void main(String[] args) {
        Checks checks = new Checks();
        wrongFuel(checks);
        fuel(checks);
        quote(checks);
        bracket(checks);
        afterAnError(checks);
        checks.finish();
    }

    private static void wrongFuel(Checks checks) {
        RescanDesk desk = new RescanDesk();
        checks.errs(desk, "a divert(2)b`", 3, "a ");
        Checks.type(desk, "text");
        int[] wrong = {-1, 5001, Integer.MIN_VALUE, Integer.MAX_VALUE};
        for (int fuel : wrong) {
            checks.same("run(" + fuel + ") throws", Checks.thrownByRun(desk, fuel), 1);
        }
        checks.same("row 2 after the throws", Checks.row(desk, 2), "b");
        checks.same("count(9) after the throws", desk.count(9), 2);
        checks.same("count(8) after the throws", desk.count(8), 1);
        checks.same("count(6) after the throws", desk.count(6), 7);
        checks.same("run(5000)", Checks.thrownByRun(desk, 5000), 0);
        checks.same("row 0", Checks.row(desk, 0), "text");
    }

    private static void fuel(Checks checks) {
        RescanDesk desk = new RescanDesk();
        checks.same("run(0) without a text", desk.run(0), 0);
        checks.same("run(0) with a text", Checks.run(desk, "ab", 0), 1);
        checks.same("count(8)", desk.count(8), 2);
        checks.same("count(6)", desk.count(6), 0);
        checks.same("run(2)", Checks.run(desk, "12", 2), 0);
        checks.same("run(1)", Checks.run(desk, "12", 1), 1);
        checks.same("row 0", Checks.row(desk, 0), "1");
        checks.same("run(0) after an error", desk.run(0), 0);
        checks.same("row 0", Checks.row(desk, 0), "");
        checks.same("FUEL with a row", Checks.run(desk, "divert(1)ab.", 4), 1);
        checks.same("row 1", Checks.row(desk, 1), "ab");
        checks.same("count(9)", desk.count(9), 1);
        checks.same("no end", Checks.run(desk, "define(`r',`r')r", 5000), 1);
        checks.same("count(6)", desk.count(6), 5000);
        checks.same("count(8)", desk.count(8), 1);
    }

    private static void quote(Checks checks) {
        RescanDesk desk = checks.errs("a.``b'c", 3, "a.");
        checks.same("count(8)", desk.count(8), 5);
        checks.same("count(6)", desk.count(6), 3);
        checks.same("QUOTE inside of a call", Checks.run(desk, "len(ab`c)"), 3);
        checks.same("count(8)", desk.count(8), 3);
        checks.same("QUOTE by an expansion", Checks.run(desk, "substr(``'x',0,1)"), 3);
        checks.same("FUEL goes before QUOTE", Checks.run(desk, "1`", 1), 1);
        checks.same("count(6)", desk.count(6), 1);
    }

    private static void bracket(Checks checks) {
        RescanDesk desk = checks.errs("a divert(1)b len(len(c)", 4, "a ");
        checks.same("row 1", Checks.row(desk, 1), "b ");
        checks.same("count(9)", desk.count(9), 1);
        checks.same("count(8)", desk.count(8), 0);
        checks.same("count(7)", desk.count(7), 2);
        checks.same("BRACKET without fuel", Checks.run(desk, "len(", 1), 4);
        checks.same("count(6)", desk.count(6), 1);
        checks.same("BRACKET by dnl", Checks.run(desk, "len(a dnl )"), 4);
        checks.gives(desk, "len(abc)", "3");
        checks.same("count(7) of the next run", desk.count(7), 1);
    }

    private static void afterAnError(Checks checks) {
        RescanDesk desk = new RescanDesk();
        checks.errs(desk, "define(`a',`b')eval(1/0)define(`c',`d')", 5, "");
        checks.same("clear() after an error", desk.clear(), 0);
        checks.gives(desk, "a c", "b c");
        checks.same("count(8)", desk.count(8), 0);
        checks.same("an empty run", desk.run(5), 0);
        int[] due = {0, 0, 0, 0, 17, 17, 0, 0, 0, 0};
        for (int what = 0; what < due.length; what++) {
            checks.same("count(" + what + ") of an empty run", desk.count(what), due[what]);
        }
    }
}
