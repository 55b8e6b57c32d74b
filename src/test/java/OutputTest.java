/** Promise 5: output gives the characters of the rows as the latest run left them. */
public final class OutputTest {
    public static void main(String[] args) {
        Checks checks = new Checks();
        RescanDesk desk = new RescanDesk();
        Checks.run(desk, "a\0\uffff`'divert(1)bc`'divert(3)def`");
        checks.same("output(0, 0)", desk.output(0, 0), 'a');
        checks.same("output(0, 1)", desk.output(0, 1), 0);
        checks.same("output(0, 2)", desk.output(0, 2), 65535);
        checks.same("output(1, 1)", desk.output(1, 1), 'c');
        checks.same("output(3, 2)", desk.output(3, 2), 'f');
        int[] lengths = {3, 2, 0, 3};
        for (int r = 0; r < 4; r++) {
            indexes(checks, desk, r, lengths[r]);
        }
        int[] wrongRows = {-1, 4, Integer.MIN_VALUE, Integer.MAX_VALUE};
        for (int r : wrongRows) {
            checks.same("output(" + r + ", 0) throws", Checks.thrownByOutput(desk, r, 0), 1);
            checks.same("output(" + r + ", -1) throws", Checks.thrownByOutput(desk, r, -1), 1);
        }
        checks.same("row 3 after the throws", Checks.row(desk, 3), "def");
        Checks.run(desk, "x");
        checks.same("output(0, 0) of the next run", desk.output(0, 0), 'x');
        checks.same("output(0, 1) throws", Checks.thrownByOutput(desk, 0, 1), 2);
        checks.same("output(3, 0) throws", Checks.thrownByOutput(desk, 3, 0), 2);
        aFullRow(checks);
        asTheLatestRunLeftIt(checks);
        checks.finish();
    }

    private static void aFullRow(Checks checks) {
        RescanDesk desk = new RescanDesk();
        Checks.run(desk, "define(`h',``" + ".".repeat(98) + "'')");
        checks.same("run", Checks.run(desk, "divert(3)1h`'h`'h`'23456`"), 3);
        checks.same("output(3, 0)", desk.output(3, 0), '1');
        checks.same("output(3, 299)", desk.output(3, 299), '6');
        checks.same("output(3, 300) throws", Checks.thrownByOutput(desk, 3, 300), 2);
        checks.same("output(0, 0) throws", Checks.thrownByOutput(desk, 0, 0), 2);
    }

    /** Also the rows that were emptied: what was in them is not to be seen. */
    private static void asTheLatestRunLeftIt(Checks checks) {
        RescanDesk desk = new RescanDesk();
        checks.gives(desk, "a`'divert(1)b", "ab");
        checks.same("output(1, 0) throws", Checks.thrownByOutput(desk, 1, 0), 2);
        Checks.type(desk, "xyz");
        checks.same("output(0, 1) after type", desk.output(0, 1), 'b');
        desk.clear();
        checks.same("output(0, 1) after clear", desk.output(0, 1), 'b');
        checks.same("an empty run", desk.run(0), 0);
        checks.same("output(0, 0) throws", Checks.thrownByOutput(desk, 0, 0), 2);
    }

    private static void indexes(Checks checks, RescanDesk desk, int r, int length) {
        int[] wrong = {length, -1, 300, Integer.MIN_VALUE, Integer.MAX_VALUE};
        for (int k : wrong) {
            checks.same("output(" + r + ", " + k + ") throws", Checks.thrownByOutput(desk, r, k), 2);
        }
        if (length > 0) {
            checks.same("output(" + r + ", " + (length - 1) + ") throws",
                    Checks.thrownByOutput(desk, r, length - 1), 0);
        }
    }
}
