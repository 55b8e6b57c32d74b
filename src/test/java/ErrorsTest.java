/** Promise 4, run itself: its fuel, how the errors end it, and what it leaves. */
public final class ErrorsTest {
    private static final int[] WRONG_FUELS = {-1, 5001, -5000, Integer.MIN_VALUE, Integer.MAX_VALUE};
    /** A text for each error from SPACE (2) on, that errs in its last step but with BRACKET (4). */
    private static final String[] ERRING = {"len(,,,,,,,,,", "`", "len(", "eval(1/0)", "eval()"};
    private static final int[] STEPS = {10, 1, 1, 5, 2};
    private static final int[] LEFT = {0, 1, 0, 0, 0};

    public static void main(String[] args) {
        Checks checks = new Checks();
        fuelsThatAreNone(checks);
        aThrowChangesNothing(checks);
        fuelOf0(checks);
        asManyAsMayBe(checks);
        fuelOf5000(checks);
        endWithoutFuel(checks);
        numbersOfTheErrors(checks);
        anErrorEndsTheRun(checks);
        whatWasDoneStays(checks);
        aStepThatErrsCounts(checks);
        takenBeforeAllElse(checks);
        theTextGoes(checks);
        definitionsStay(checks);
        nothingElseStays(checks);
        checks.finish();
    }

    /** "IllegalArgumentException when fuel is not 0 .. 5000." */
    private static void fuelsThatAreNone(Checks checks) {
        for (int fuel : WRONG_FUELS) {
            checks.same("run(" + fuel + ") throws", Checks.thrownByRun(new RescanDesk(), fuel), 1);
        }
        for (int fuel : new int[] {0, 1, 4999, 5000}) {
            checks.same("run(" + fuel + ") throws", Checks.thrownByRun(new RescanDesk(), fuel), 0);
        }
    }

    /** "A method that throws changes nothing." */
    private static void aThrowChangesNothing(Checks checks) {
        RescanDesk desk = new RescanDesk();
        checks.errs(desk, "a define(`f',F)divert(2)b`", 3, "a ");
        Checks.type(desk, "f.");
        for (int fuel : WRONG_FUELS) {
            checks.same("run(" + fuel + ") throws", Checks.thrownByRun(desk, fuel), 1);
            checks.same("output(" + fuel + ", 0) throws", Checks.thrownByOutput(desk, fuel, 0), 1);
            checks.same("output(2, " + fuel + ") throws", Checks.thrownByOutput(desk, 2, fuel), 2);
            checks.counts(desk, "after the throws", 2, 0, 1, 0, 17, 17, 12, 1, 1, 2);
        }
        checks.same("row 2 after the throws", Checks.row(desk, 2), "b");
        checks.gives(desk, "", "F.");
    }

    private static void fuelOf0(Checks checks) {
        RescanDesk desk = new RescanDesk();
        checks.same("run(0) without a text", desk.run(0), 0);
        checks.counts(desk, "after run(0) without a text", 0, 0, 0, 0, 16, 16, 0, 0, 0, 0);
        checks.same("run(0) with a text", Checks.run(desk, "ab", 0), 1);
        checks.counts(desk, "after run(0) with a text", 0, 0, 0, 0, 16, 16, 0, 0, 2, 0);
        checks.same("clear() after it", desk.clear(), 0);
        for (String text : ERRING) {
            checks.same("run(0) of " + text, Checks.run(desk, text, 0), 1);
            checks.same("count(8) of " + text, desk.count(8), text.length());
        }
    }

    /** "FUEL: as many were done as may be" */
    private static void asManyAsMayBe(Checks checks) {
        for (int fuel = 0; fuel <= 12; fuel++) {
            RescanDesk desk = new RescanDesk();
            checks.same("run(" + fuel + ")", Checks.run(desk, "1 2`3'len(4)ab!", fuel), fuel < 10 ? 1 : 0);
            checks.same("count(6) of run(" + fuel + ")", desk.count(6), Math.min(fuel, 10));
        }
        RescanDesk desk = new RescanDesk();
        checks.same("FUEL with a row", Checks.run(desk, "divert(1)ab.", 4), 1);
        checks.counts(desk, "after FUEL", 0, 2, 0, 0, 16, 16, 4, 1, 1, 1);
        checks.same("FUEL in a call", Checks.run(desk, "len(ab.", 2), 1);
        checks.counts(desk, "after FUEL in a call", 0, 0, 0, 0, 16, 16, 2, 1, 1, 0);
    }

    /** The most fuel: a run of just 5000 steps ends well, and one without an end ends. */
    private static void fuelOf5000(Checks checks) {
        // c() takes 1222 steps, and what defines it 18.
        String ten = "define(`a',`..........')define(`b',`" + "a()".repeat(10) + "')define(`c',`"
                + "b()".repeat(10) + "')divert(4)" + "c()".repeat(4);
        RescanDesk desk = new RescanDesk();
        checks.same("5000 steps", Checks.run(desk, ten + ".".repeat(94), 5000), 0);
        checks.same("count(6)", desk.count(6), 5000);
        RescanDesk other = new RescanDesk();
        checks.same("5001 steps", Checks.run(other, ten + ".".repeat(95), 5000), 1);
        checks.counts(other, "after 5001 steps", 0, 0, 0, 0, 19, 19, 5000, 1, 1, -1);
        checks.same("no end", Checks.run(other, "define(`r',`r')r", 5000), 1);
        checks.counts(other, "after no end", 0, 0, 0, 0, 20, 20, 5000, 1, 1, 0);
    }

    /** The end of the front is no step: it needs no fuel and is not counted. */
    private static void endWithoutFuel(Checks checks) {
        RescanDesk desk = new RescanDesk();
        checks.same("the end", Checks.run(desk, "divert(1)a", 4), 0);
        checks.counts(desk, "after the end", 1, 0, 0, 0, 16, 16, 4, 1, 0, 0);
        checks.same("BRACKET", Checks.run(desk, "len(", 1), 4);
        checks.counts(desk, "after BRACKET", 0, 0, 0, 0, 16, 16, 1, 1, 0, 0);
        checks.same("FUEL goes before QUOTE", Checks.run(desk, "1`", 1), 1);
        checks.same("FUEL goes before BRACKET", Checks.run(desk, "len(1", 1), 1);
    }

    /** "ERRORS: 1 FUEL, 2 SPACE, 3 QUOTE, 4 BRACKET, 5 ZERO, 6 EXPRESSION." */
    private static void numbersOfTheErrors(Checks checks) {
        checks.same("FUEL", Checks.run(new RescanDesk(), "a", 0), 1);
        for (int i = 0; i < ERRING.length; i++) {
            checks.same(ERRING[i], Checks.run(new RescanDesk(), ERRING[i]), i + 2);
        }
    }

    /** "One ends the run": what stands behind is not read. */
    private static void anErrorEndsTheRun(Checks checks) {
        String behind = "define(`f',1)";
        for (int i = 0; i < ERRING.length; i++) {
            boolean atTheEnd = i == 2;
            RescanDesk desk = new RescanDesk();
            checks.ends(desk, ERRING[i] + (atTheEnd ? "" : behind), i + 2,
                    LEFT[i] + (atTheEnd ? 0 : behind.length()));
            checks.same("count(4) after " + ERRING[i], desk.count(4), 16);
        }
    }

    /** "what was done stays": definitions, rows that are not put together, and the present one. */
    private static void whatWasDoneStays(Checks checks) {
        String before = "define(`f',1)a`'divert(2)b`'divert(1)c`'";
        for (int i = 0; i < ERRING.length; i++) {
            RescanDesk desk = new RescanDesk();
            checks.ends(desk, before + ERRING[i], i + 2, LEFT[i]);
            checks.counts(desk, "after " + ERRING[i], 1, 1, 1, 0, 17, 17, 17 + STEPS[i], 1, LEFT[i], 1);
        }
    }

    /** "a step that errs counts" */
    private static void aStepThatErrsCounts(Checks checks) {
        for (int i = 0; i < ERRING.length; i++) {
            RescanDesk desk = new RescanDesk();
            checks.same("run of " + ERRING[i], Checks.run(desk, ERRING[i], STEPS[i]), i + 2);
            checks.same("count(6) after " + ERRING[i], desk.count(6), STEPS[i]);
            checks.same("a step short", Checks.run(desk, ERRING[i], STEPS[i] - 1), 1);
        }
    }

    /** "What a step reads is taken from the front before all else, but nothing with QUOTE" */
    private static void takenBeforeAllElse(Checks checks) {
        checks.ends(new RescanDesk(), "len(".repeat(13) + "!", 2, 1);
        checks.ends(new RescanDesk(), "len(,,,,,,,,,!", 2, 1);
        checks.ends(new RescanDesk(), "eval(1/0)!", 5, 1);
        checks.ends(new RescanDesk(), "eval!", 6, 1);
        checks.ends(new RescanDesk(), "eval(1a)!", 6, 1);
        checks.ends(new RescanDesk(), "1`2`3'", 3, 5);
        checks.ends(new RescanDesk(), "len(1,`2`3')", 3, 6);
    }

    /** "the text goes: 0, or the error." */
    private static void theTextGoes(Checks checks) {
        RescanDesk desk = new RescanDesk();
        for (String text : ERRING) {
            Checks.run(desk, text);
            checks.same("clear() after " + text, desk.clear(), 0);
        }
        Checks.run(desk, "1234", 2);
        checks.same("clear() after FUEL", desk.clear(), 0);
        checks.gives(desk, "56", "56");
        checks.same("clear() after a run", desk.clear(), 0);
    }

    /** "Definitions stay from run to run" */
    private static void definitionsStay(Checks checks) {
        RescanDesk desk = new RescanDesk();
        checks.gives(desk, "define(`a',1)pushdef(`a',2)undefine(`len')popdef(`incr')", "");
        checks.errs(desk, "a eval(1/0)define(`c',3)", 5, "2 ");
        checks.gives(desk, "a popdef(`a')a c len incr", "2 1 c len incr");
        checks.same("clear()", desk.clear(), 0);
        checks.gives(desk, "a", "1");
    }

    /** A call that was open, its arguments and the front of a run that erred are gone. */
    private static void nothingElseStays(Checks checks) {
        RescanDesk desk = new RescanDesk();
        checks.ends(desk, "len(ab(len(c,d", 4, 0);
        checks.gives(desk, "x)len(y)", "x)1");
        checks.same("count(7) of the next run", desk.count(7), 1);
        checks.ends(desk, "divert(2)len(`ab", 3, 3);
        checks.same("an empty run", desk.run(5), 0);
        checks.counts(desk, "of an empty run", 0, 0, 0, 0, 16, 16, 0, 0, 0, 0);
    }
}
