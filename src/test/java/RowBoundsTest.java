/** Promise 4, the edges of the rows: a method for each sentence. */
public final class RowBoundsTest {
    private static final String DOTS = ".".repeat(98);

    public static void main(String[] args) {
        Checks checks = new Checks();
        divertTo0To3OrToNone(checks);
        divnumWithAndWithoutARow(checks);
        undivertWithNoArguments(checks);
        undivertOneOfThese(checks);
        undivertThePresentOne(checks);
        undivertWithoutAPresentOne(checks);
        emptyWhenARunBegins(checks);
        charactersThatThereIsRoomFor(checks);
        noRowIsNeverFull(checks);
        aRowThatWouldNotFit(checks);
        anEmptyRowFitsAFullOne(checks);
        theSecondOfThreeWouldNotFit(checks);
        rowsThatWouldNotFitAtTheEnd(checks);
        checks.finish();
    }

    /** A run that errs at its end, so that the rows are not put together. */
    private static RescanDesk after(Checks checks, String text) {
        RescanDesk desk = new RescanDesk();
        checks.same("run of " + text, Checks.run(desk, text + "`"), 3);
        return desk;
    }

    /** "divert: the present row is a's value, if it is 0 .. 3; there is none otherwise." */
    private static void divertTo0To3OrToNone(Checks checks) {
        for (int r = 0; r < 4; r++) {
            RescanDesk desk = after(checks, "divert(" + r + ")x");
            checks.same("count(9) after divert(" + r + ")", desk.count(9), r);
            checks.same("row " + r, Checks.row(desk, r), "x");
        }
        String[] none = {"-1", "4", "9", "-2", "-3", "4294967296", "4294967299", "-4294967295",
            "9223372036854775807", "9223372036854775808", "2147483648"};
        for (String value : none) {
            RescanDesk desk = after(checks, "divert(" + value + ")x");
            checks.same("count(9) after divert(" + value + ")", desk.count(9), RescanDesk.NONE);
            checks.counts(desk, "after divert(" + value + ")", 0, 0, 0, 0);
        }
        for (String zero : new String[] {"`'", "()", "(x)", "(-0)", "(18446744073709551616)", "(1.)"}) {
            RescanDesk desk = after(checks, "divert(2)divert" + zero + "x");
            checks.same("count(9) after divert" + zero, desk.count(9), 0);
            checks.same("row 0 after divert" + zero, Checks.row(desk, 0), "x");
        }
    }

    /** "divnum: the number of the present row, -1 if there is none." */
    private static void divnumWithAndWithoutARow(Checks checks) {
        checks.gives("divnum", "0");
        checks.gives("divert(1)divnum`'divert(2)divnum()divert(3)divnum(x)", "123");
        checks.gives("divert(4)len(divnum)divert(0)", "");
        checks.gives("divert(4)define(`n',divnum)divert(0)n", "-1");
    }

    /** "undivert: with no arguments the rows 1, 2, 3, ... is added to the present one and then empty" */
    private static void undivertWithNoArguments(Checks checks) {
        String three = "divert(3)c`'divert(2)b`'divert(1)a`'divert(0)z`'";
        String[][] due = {{"zabc", "", "", ""}, {"z", "abc", "", ""}, {"z", "", "bac", ""}, {"z", "", "", "cab"}};
        for (int present = 0; present < 4; present++) {
            RescanDesk desk = after(checks, three + "divert(" + present + ")undivert");
            for (int r = 0; r < 4; r++) {
                checks.same("row " + r + " with " + present, Checks.row(desk, r), due[present][r]);
            }
            checks.same("count(9)", desk.count(9), present);
        }
        RescanDesk empty = after(checks, "undivert`'undivert");
        checks.counts(empty, "after undivert of nothing", 0, 0, 0, 0);
    }

    /** "otherwise that of a's value, if it is one of these" */
    private static void undivertOneOfThese(Checks checks) {
        String three = "divert(3)c`'divert(2)b`'divert(1)a`'divert(0)z`'";
        String[] due = {"z", "za", "zb", "zc", "z"};
        for (int value = 0; value <= 4; value++) {
            RescanDesk desk = after(checks, three + "undivert(" + value + ")");
            checks.same("row 0 after undivert(" + value + ")", Checks.row(desk, 0), due[value]);
            for (int r = 1; r < 4; r++) {
                checks.same("count(" + r + ") after " + value, desk.count(r), r == value ? 0 : 1);
            }
        }
        String[] none = {"", "x", "-1", "4294967297", "9223372036854775807", "1.", "-3"};
        for (String value : none) {
            RescanDesk desk = after(checks, three + "undivert(" + value + ")");
            checks.counts(desk, "after undivert(" + value + ")", 1, 1, 1, 1);
        }
        RescanDesk desk = after(checks, three + "undivert(2,1)");
        checks.same("row 0 after undivert(2,1)", Checks.row(desk, 0), "zb");
    }

    /** "(that itself stays as it is; ...)" */
    private static void undivertThePresentOne(Checks checks) {
        for (int r = 1; r < 4; r++) {
            RescanDesk desk = after(checks, "divert(" + r + ")abc`'undivert(" + r + ")undivert`'d");
            checks.same("row " + r, Checks.row(desk, r), "abcd");
        }
        // Twice its length would not fit, but nothing is added.
        RescanDesk half = after(checks, "divert(1)" + ".".repeat(151) + "undivert(1)undivert");
        checks.same("count(1)", half.count(1), 151);
    }

    /** "without a present row it is lost" */
    private static void undivertWithoutAPresentOne(Checks checks) {
        String three = "divert(3)c`'divert(2)b`'divert(1)a`'divert(0)z`'divert(-1)";
        checks.counts(after(checks, three + "undivert(2)"), "after undivert(2)", 1, 1, 0, 1);
        checks.counts(after(checks, three + "undivert(0)"), "after undivert(0)", 1, 1, 1, 1);
        checks.counts(after(checks, three + "undivert"), "after undivert", 1, 0, 0, 0);
    }

    /** "rows are empty and the present one is 0 when one begins." */
    private static void emptyWhenARunBegins(Checks checks) {
        RescanDesk desk = after(checks, "a`'divert(1)b`'divert(2)c`'divert(3)d");
        checks.counts(desk, "before", 1, 1, 1, 1);
        checks.same("run(0)", Checks.run(desk, "x", 0), 1);
        checks.counts(desk, "of a run without a step", 0, 0, 0, 0, 16, 16, 0, 0, 1, 0);
        checks.same("a run without a row", Checks.run(desk, "divert(4)`"), 3);
        checks.gives(desk, "divnum", "0");
    }

    /** A desk on which h gives 98 characters. */
    private static RescanDesk desk() {
        RescanDesk desk = new RescanDesk();
        Checks.run(desk, "define(`h',``" + DOTS + "'')");
        return desk;
    }

    /** "a row more than 300"; "of what is written character by character all that there was room for" */
    private static void charactersThatThereIsRoomFor(Checks checks) {
        for (int r = 0; r < 4; r++) {
            String full = "divert(" + r + ")h`'h`'h`'";
            filled(checks, r, full + "123456`", 3, 300, '6', 1);
            filled(checks, r, full + "1234567!", 2, 300, '6', 1);
            filled(checks, r, full + "`123456'`", 3, 300, '6', 1);
            filled(checks, r, full + "`1234567'!", 2, 300, '6', 1);
            filled(checks, r, full + "abcdef`", 3, 300, 'f', 1);
            filled(checks, r, full + "abcdefgh!", 2, 300, 'f', 1);
            filled(checks, r, full + "1234`" + "x".repeat(100) + "'!!", 2, 300, 'x', 2);
            filled(checks, r, full + "12345 \n", 2, 300, ' ', 0);
        }
    }

    private static void filled(Checks checks, int r, String text, int error, int length, char last, int left) {
        RescanDesk desk = desk();
        checks.ends(desk, text, error, left);
        checks.same("count(" + r + ") after " + text, desk.count(r), length);
        checks.same("the last character after " + text, desk.output(r, length - 1), last);
        checks.same("count(9) after " + text, desk.count(9), r);
    }

    /** Without a row nothing is kept, so there is room for any number. */
    private static void noRowIsNeverFull(Checks checks) {
        checks.ends(desk(), "divert(4)" + "h ".repeat(60), 0, 0);
    }

    /** "a row that would not fit is not added at all" */
    private static void aRowThatWouldNotFit(Checks checks) {
        for (int r = 1; r < 4; r++) {
            int into = r == 1 ? 3 : r - 1;
            String full = "divert(" + r + ")1234`'divert(" + into + ")h`'h`'h`'12";
            RescanDesk fits = desk();
            checks.ends(fits, full + "undivert(" + r + ")`", 3, 1);
            checks.same("count of the present one", fits.count(into), 300);
            checks.same("count of the other one", fits.count(r), 0);
            for (String undivert : new String[] {"undivert(" + r + ")", "undivert()undivert"}) {
                RescanDesk desk = desk();
                checks.ends(desk, full + "3" + undivert + "!!", 2, 2);
                checks.same("count of the present one", desk.count(into), 297);
                checks.same("count of the other one", desk.count(r), 4);
                checks.same("the last character", desk.output(into, 296), '3');
                checks.same("count(9)", desk.count(9), into);
            }
        }
    }

    private static void anEmptyRowFitsAFullOne(Checks checks) {
        RescanDesk desk = desk();
        checks.ends(desk, "h`'h`'h`'123456undivert`'undivert(1)", 0, 0);
        checks.same("count(0)", desk.count(0), 300);
    }

    /** What was done stays: row 1 was added before row 2 would not fit, and row 3 is as it was. */
    private static void theSecondOfThreeWouldNotFit(Checks checks) {
        RescanDesk desk = desk();
        String rows = "divert(1)12`'divert(2)12345`'divert(3)1`'divert(0)h`'h`'h`'";
        checks.ends(desk, rows + "undivert`'5", 2, 3);
        checks.counts(desk, "after undivert", 296, 0, 5, 1);
    }

    /** "the rows 1, 2, 3 are added to row 0", and one that would not fit is not added at all. */
    private static void rowsThatWouldNotFitAtTheEnd(Checks checks) {
        RescanDesk fits = desk();
        checks.ends(fits, "divert(3)123`'divert(2)12`'divert(1)1`'divert(0)h`'h`'h", 0, 0);
        checks.counts(fits, "after rows that fit", 300, 0, 0, 0);
        RescanDesk first = desk();
        checks.ends(first, "divert(1)1234567`'divert(0)h`'h`'h", 2, 0);
        checks.counts(first, "after a first that does not", 294, 7, 0, 0);
        RescanDesk third = desk();
        checks.ends(third, "divert(3)1234`'divert(2)12`'divert(1)1`'divert(0)h`'h`'h", 2, 0);
        checks.counts(third, "after a third that does not", 297, 0, 0, 4);
        RescanDesk lost = desk();
        checks.ends(lost, "divert(1)h`'h`'h`'divert(2)h`'divert(4)undivert(2)", 0, 0);
        checks.counts(lost, "after a row that was lost", 294, 0, 0, 0);
    }
}
