/** Promise 6: count. */
public final class CountTest {
    public static void main(String[] args) {
        Checks checks = new Checks();
        eachOfThem(checks);
        anotherWhat(checks);
        lengthsOfFullAndEmptyRows(checks);
        definitionsAndMacros(checks);
        noDefinitions(checks);
        stepsOfTheLatestRun(checks);
        callsThatWereOpenAtOnce(checks);
        theFrontThatWasLeft(checks);
        thePresentRow(checks);
        untilTheNextRun(checks);
        checks.finish();
    }

    private static void eachOfThem(Checks checks) {
        RescanDesk desk = new RescanDesk();
        Checks.run(desk, "ab`'divert(1)c`'divert(2)def`'pushdef(`f',1)pushdef(`f',2)len(len(len(1)).`xy");
        checks.counts(desk, "after an error", 2, 1, 3, 0, 18, 17, 32, 3, 3, 2);
    }

    /** "NONE for another what." */
    private static void anotherWhat(Checks checks) {
        RescanDesk desk = new RescanDesk();
        Checks.run(desk, "ab`'divert(3)c`");
        int[] wrong = {-1, 10, -2, 11, 256, -256, 65536, Integer.MIN_VALUE, Integer.MAX_VALUE};
        for (int what : wrong) {
            checks.same("count(" + what + ")", desk.count(what), RescanDesk.NONE);
        }
    }

    /** "what = 0 .. 3 how many characters row 0 .. 3 has" */
    private static void lengthsOfFullAndEmptyRows(Checks checks) {
        RescanDesk desk = new RescanDesk();
        Checks.run(desk, "define(`h',``" + ".".repeat(98) + "'')");
        checks.counts(desk, "of empty rows", 0, 0, 0, 0);
        checks.same("run", Checks.run(desk, "h`'h`'h`'123456`'divert(3)a`'divert(2)bc`'divert(1)h`"), 3);
        checks.counts(desk, "of a full row", 300, 98, 2, 1);
    }

    /** "4 definitions, 5 macros that have some" */
    private static void definitionsAndMacros(Checks checks) {
        RescanDesk desk = new RescanDesk();
        checks.gives(desk, "pushdef(`f',1)pushdef(`g',2)pushdef(`f',3)pushdef(`len',4)", "");
        checks.counts(desk, "after pushdef", 0, 0, 0, 0, 20, 18);
        checks.gives(desk, "popdef(`f')popdef(`g')", "");
        checks.counts(desk, "after popdef", 0, 0, 0, 0, 18, 17);
        checks.gives(desk, "undefine(`len')undefine(`f')", "");
        checks.counts(desk, "after undefine", 0, 0, 0, 0, 15, 15);
        checks.gives(desk, "define(`u',1)define(`u',2)popdef(`pushdef')", "");
        checks.counts(desk, "after define", 0, 0, 0, 0, 15, 15);
    }

    /** "6 steps of the latest run" */
    private static void stepsOfTheLatestRun(Checks checks) {
        RescanDesk desk = new RescanDesk();
        Checks.run(desk, "123");
        checks.same("count(6) of 3", desk.count(6), 3);
        Checks.run(desk, "1234", 2);
        checks.same("count(6) of 2", desk.count(6), 2);
        desk.run(5000);
        checks.same("count(6) of none", desk.count(6), 0);
    }

    /** The fewest there can be: each name is written then. */
    private static void noDefinitions(Checks checks) {
        RescanDesk desk = new RescanDesk();
        String[] words = {"divnum", "dnl", "index", "len", "incr", "eval", "ifelse", "ifdef", "shift",
            "substr", "divert", "undivert", "popdef", "pushdef", "define", "undefine"};
        StringBuilder all = new StringBuilder();
        for (String word : words) {
            all.append("undefine(`").append(word).append("')");
        }
        checks.gives(desk, all.toString(), "");
        checks.counts(desk, "without definitions", 0, 0, 0, 0, 0, 0, 48, 1, 0, 0);
        checks.gives(desk, "define(`a',1)", "define(a,1)");
        checks.counts(desk, "of the next run", 11, 0, 0, 0, 0, 0, 6, 0, 0, 0);
    }

    /** "7 the most calls that were open at once in it" */
    private static void callsThatWereOpenAtOnce(Checks checks) {
        RescanDesk desk = new RescanDesk();
        checks.gives(desk, "len len (len) nix()", "0 0 (0) nix()");
        checks.same("count(7) without a call", desk.count(7), 0);
        checks.gives(desk, "len()len()len()", "000");
        checks.same("count(7) with one at once", desk.count(7), 1);
        checks.gives(desk, "len(len(len()))len(len())len()", "110");
        checks.same("count(7) with three at once", desk.count(7), 3);
        checks.same("run of 12", Checks.run(desk, "len(".repeat(12)), 4);
        checks.same("count(7) with 12", desk.count(7), 12);
        checks.gives(desk, "len()", "0");
        checks.same("count(7) of the latest run", desk.count(7), 1);
        checks.same("run without fuel", Checks.run(desk, "len()", 0), 1);
        checks.same("count(7) without fuel", desk.count(7), 0);
    }

    /** "8 characters of the front that it left" */
    private static void theFrontThatWasLeft(Checks checks) {
        RescanDesk desk = new RescanDesk();
        checks.same("run(0)", Checks.run(desk, "x".repeat(300), 0), 1);
        checks.same("count(8) of all", desk.count(8), 300);
        checks.same("run(1)", Checks.run(desk, "12", 1), 1);
        checks.same("count(8) of one", desk.count(8), 1);
        checks.gives(desk, "ab", "ab");
        checks.same("count(8) of none", desk.count(8), 0);
        checks.same("run(6)", Checks.run(desk, "define(`f',`$0$0.')f", 6), 1);
        checks.same("count(8) of what was put", desk.count(8), 3);
    }

    /** "9 the present row (NONE without one)" */
    private static void thePresentRow(Checks checks) {
        for (int r = -1; r <= 4; r++) {
            RescanDesk desk = new RescanDesk();
            Checks.run(desk, "divert(" + r + ")`");
            checks.same("count(9) after " + r, desk.count(9), r >= 0 && r < 4 ? r : RescanDesk.NONE);
            Checks.run(desk, "divert(" + r + ")");
            checks.same("count(9) after the end", desk.count(9), 0);
        }
    }

    /** Typing, clearing and asking change nothing of what the latest run left. */
    private static void untilTheNextRun(Checks checks) {
        RescanDesk desk = new RescanDesk();
        Checks.run(desk, "a`'divert(2)bc`'len(`");
        int[] due = {1, 0, 2, 0, 16, 16, 9, 1, 1, 2};
        checks.counts(desk, "after the run", due);
        Checks.type(desk, "divert(3)len(len(abc");
        checks.counts(desk, "after typing", due);
        desk.clear();
        checks.counts(desk, "after clear", due);
        desk.output(0, 0);
        checks.counts(desk, "after output", due);
        checks.same("a throw", Checks.thrownByRun(desk, -1), 1);
        checks.counts(desk, "after a throw", due);
    }
}
