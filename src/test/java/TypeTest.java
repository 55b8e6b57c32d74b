/** Promise 2: type appends to the text, which has room for 300 characters. */
public final class TypeTest {
    public static void main(String[] args) {
        Checks checks = new Checks();
        appendsInOrder(checks);
        everyCharacterIsTaken(checks);
        refusesTheCharacterBehind300(checks);
        fullUntilItGoes(checks);
        leavesTheLatestRun(checks);
        checks.finish();
    }

    private static void appendsInOrder(Checks checks) {
        RescanDesk desk = new RescanDesk();
        checks.same("type('x')", desk.type('x') ? 1 : 0, 1);
        checks.same("type('+')", desk.type('+') ? 1 : 0, 1);
        checks.same("type('y')", desk.type('y') ? 1 : 0, 1);
        checks.gives(desk, "", "x+y");
    }

    private static void everyCharacterIsTaken(Checks checks) {
        checks.gives("\0\1\u007f\u00ff\u0100\uffff", "\0\1\u007f\u00ff\u0100\uffff");
    }

    private static void refusesTheCharacterBehind300(Checks checks) {
        RescanDesk desk = new RescanDesk();
        for (int i = 0; i < 300; i++) {
            checks.same("type number " + i, desk.type('.') ? 1 : 0, 1);
        }
        checks.same("type number 300", desk.type('!') ? 1 : 0, 0);
        checks.same("type number 300 again", desk.type('!') ? 1 : 0, 0);
        checks.same("run of 300 characters", desk.run(300), 0);
        checks.same("count(0)", desk.count(0), 300);
        checks.same("the last character", desk.output(0, 299), '.');
        checks.same("type after the run", desk.type('.') ? 1 : 0, 1);
    }

    /** A text that is full is so for every character, and a run or clear makes room again. */
    private static void fullUntilItGoes(Checks checks) {
        RescanDesk desk = new RescanDesk();
        Checks.type(desk, "x".repeat(299));
        checks.same("type number 299", desk.type('\0') ? 1 : 0, 1);
        for (char c : new char[] {0, ' ', '`', 'x', 65535}) {
            checks.same("type of " + (int) c + " when full", desk.type(c) ? 1 : 0, 0);
        }
        checks.same("clear()", desk.clear(), 300);
        Checks.type(desk, "1".repeat(150) + "`".repeat(51));
        checks.same("a run that errs", desk.run(5000), 3);
        checks.same("clear() after it", desk.clear(), 0);
    }

    private static void leavesTheLatestRun(Checks checks) {
        RescanDesk desk = new RescanDesk();
        checks.gives(desk, "abc", "abc");
        Checks.type(desk, "later");
        checks.same("row 0 while typing", Checks.row(desk, 0), "abc");
        checks.same("count(6) while typing", desk.count(6), 1);
        checks.same("count(8) while typing", desk.count(8), 0);
    }
}
