/** Promise 4, SPACE (2), but for the front and the rows: each bound just kept, and just passed. */
public final class SpaceTest {
    private static final String X_100 = "x".repeat(100);
    private static final String[] DEFINING = {"define", "pushdef"};

    public static void main(String[] args) {
        Checks checks = new Checks();
        argumentsOfOneCall(checks);
        argumentsOfSeveralCalls(checks);
        argumentsThatWentMakeRoom(checks);
        openCalls(checks);
        callsThatWereClosed(checks);
        argumentsOfACall(checks);
        bodies(checks);
        bodiesOfNoNames(checks);
        names(checks);
        namesThatAreOnlyAskedFor(checks);
        definitions(checks);
        definitionsThatWentMakeRoom(checks);
        checks.finish();
    }

    /** A desk on which h gives 98 characters, and q four times as many. */
    private static RescanDesk desk() {
        RescanDesk desk = new RescanDesk();
        Checks.run(desk, "define(`h',``" + ".".repeat(98) + "'')define(`q',`h`'h`'h`'h`'')");
        return desk;
    }

    private static void gathered(Checks checks, String text, int error, int left, String due) {
        RescanDesk desk = desk();
        checks.ends(desk, text, error, left);
        checks.same("row 0 after " + text, Checks.row(desk, 0), due);
    }

    /** "the arguments of the open calls together more than 400" */
    private static void argumentsOfOneCall(Checks checks) {
        gathered(checks, "len(q()12345678)!", 0, 0, "400!");
        gathered(checks, "len(q()123456789)!", 2, 2, "");
        gathered(checks, "len(q()`12345678')!", 0, 0, "400!");
        gathered(checks, "len(q()`123456789')!", 2, 2, "");
        gathered(checks, "len(q()abcdefgh)!", 0, 0, "400!");
        gathered(checks, "len(q()abcdefghi)!", 2, 2, "");
        gathered(checks, "len(q()123456())!", 0, 0, "400!");
        gathered(checks, "len(q()1234567())!", 2, 2, "");
        gathered(checks, "len(q()12345678()!", 2, 2, "");
        gathered(checks, "len(q()12345678 )!", 2, 2, "");
        gathered(checks, "len(1,q()1234567)!", 0, 0, "1!");
        gathered(checks, "len(1,q()12345678)!", 2, 2, "");
        // What is not written needs no room: commas, blanks before all else, empty quotes.
        gathered(checks, "len(q()12345678`', ,\n,)!", 0, 0, "400!");
    }

    private static void argumentsOfSeveralCalls(Checks checks) {
        gathered(checks, "len(q()len(12345678))!", 0, 0, "393!");
        gathered(checks, "len(q()len(123456789))!", 2, 3, "");
        gathered(checks, "len(12345678len(q()))!", 0, 0, "11!");
        gathered(checks, "len(123456789len(q()))!", 2, 5, "");
        gathered(checks, "len(1,2len(3,4len(q()1234)))!", 0, 0, "1!");
        gathered(checks, "len(1,2len(3,4len(q()12345)))!", 2, 4, "");
    }

    private static void argumentsThatWentMakeRoom(Checks checks) {
        gathered(checks, "len(len(q())len(q())len(q()))", 0, 0, "9");
        gathered(checks, "len(q())len(q())", 0, 0, "392392");
        RescanDesk desk = desk();
        checks.ends(desk, "len(q()len(12345678", 4, 0);
        checks.ends(desk, "len(q()12345678)", 0, 0);
    }

    /** "more than 12 calls would be open" */
    private static void openCalls(Checks checks) {
        RescanDesk desk = new RescanDesk();
        checks.gives(desk, "len(".repeat(12) + ")".repeat(12), "1");
        checks.same("count(7) with 12", desk.count(7), 12);
        checks.ends(desk, "len(".repeat(13) + ")".repeat(13), 2, 13);
        checks.counts(desk, "with 13", 0, 0, 0, 0, 16, 16, 13, 12, 13, 0);
        checks.ends(desk, "len(".repeat(12) + "(((((" + "`len('len nix()" + ")".repeat(5) + ")".repeat(12), 0, 0);
        checks.same("count(7) with others", desk.count(7), 12);
    }

    private static void callsThatWereClosed(Checks checks) {
        RescanDesk desk = new RescanDesk();
        checks.gives(desk, "len()".repeat(30), "0".repeat(30));
        checks.same("count(7)", desk.count(7), 1);
        checks.gives(desk, "len(".repeat(11) + "len()len()len()" + ")".repeat(11), "1");
        checks.same("count(7)", desk.count(7), 12);
    }

    /** "a call more than 9 arguments" */
    private static void argumentsOfACall(Checks checks) {
        RescanDesk desk = new RescanDesk();
        checks.gives(desk, "len(ab,,,,,,,,)", "2");
        checks.ends(desk, "len(ab,,,,,,,,,)!", 2, 2);
        checks.counts(desk, "with 10", 0, 0, 0, 0, 16, 16, 11, 1, 2, 0);
        checks.gives(desk, "len((,,,,,,,,,,)`,,,,,,,,,,,')", "23");
        checks.gives(desk, "define(`f',`$9')f(1,2,3,4,5,6,7,8,f(1,2,3,4,5,6,7,8,9))", "9");
        checks.ends(desk, "f(1,2,3,4,5,6,7,8,f(1,2,3,4,5,6,7,8,9,!", 2, 1);
    }

    /** "or a body more than 100 characters" */
    private static void bodies(Checks checks) {
        for (String word : DEFINING) {
            RescanDesk desk = new RescanDesk();
            checks.gives(desk, word + "(`f',`" + X_100 + "')f", X_100);
            checks.same("count(4) with 100", desk.count(4), 17);
            checks.ends(desk, word + "(`f',`y" + X_100 + "')f", 2, 1);
            checks.counts(desk, "with 101", 0, 0, 0, 0, 17, 17, 5, 1, 1, 0);
            Checks.run(desk, "f");
            checks.same("the first character of f", desk.output(0, 0), 'x');
            RescanDesk other = new RescanDesk();
            checks.ends(other, word + "(`g',`" + X_100 + "x')", 2, 0);
            checks.ends(other, word + "(`len',`" + X_100 + "x')", 2, 0);
            checks.gives(other, "g len(ab)", "g 2");
            checks.same("count(4)", other.count(4), 16);
        }
    }

    /** What is not defined has no body: nothing is too long then. */
    private static void bodiesOfNoNames(Checks checks) {
        for (String word : DEFINING) {
            checks.gives(word + "(`1',`" + X_100 + "x')" + word + "(`1bcdefghijklmno',`x').", ".");
            checks.gives(word + "(`f',x,`" + X_100 + "x')f", "x");
        }
    }

    /** "or a name to be defined has more than 12" */
    private static void names(Checks checks) {
        for (String word : DEFINING) {
            RescanDesk desk = new RescanDesk();
            checks.gives(desk, word + "(`abcdefghijkl',`y')abcdefghijkl abcdefghijk", "y abcdefghijk");
            checks.ends(desk, word + "(`abcdefghijklm',`y')!", 2, 1);
            checks.gives(desk, "abcdefghijklm", "abcdefghijklm");
            checks.ends(desk, word + "(`" + X_100 + "',`y')!", 2, 1);
            checks.same("count(4)", desk.count(4), 17);
        }
    }

    private static void namesThatAreOnlyAskedFor(Checks checks) {
        String name = "(`abcdefghijklm'";
        checks.gives("ifdef" + name + ",y,n) popdef" + name + ")undefine" + name + ").", "n .");
    }

    /** A desk with 60 definitions: p, 43 of f, and those built in. */
    private static RescanDesk fullDesk(Checks checks) {
        RescanDesk desk = new RescanDesk();
        checks.ends(desk, "define(`p',`pushdef(`f',divnum)')" + "p ".repeat(43), 0, 0);
        checks.same("count(4) of a full desk", desk.count(4), 60);
        checks.same("count(5) of a full desk", desk.count(5), 18);
        return desk;
    }

    /** "or there would be more than 60 definitions." */
    private static void definitions(Checks checks) {
        RescanDesk desk = fullDesk(checks);
        checks.ends(desk, "pushdef(`f',1)!", 2, 1);
        checks.ends(desk, "pushdef(`g',1)!", 2, 1);
        checks.ends(desk, "define(`g',1)!", 2, 1);
        checks.same("count(4) after those refused", desk.count(4), 60);
        checks.gives(desk, "f g", "0 g");
        checks.gives(desk, "define(`f',7)f define(`len',8)len(a)", "7 8");
        checks.same("count(4) after others", desk.count(4), 60);
        checks.gives(desk, "define(`1',1)pushdef(`',1)", "");
    }

    private static void definitionsThatWentMakeRoom(Checks checks) {
        RescanDesk desk = fullDesk(checks);
        checks.gives(desk, "popdef(`dnl')define(`g',9)g dnl", "9 dnl");
        checks.ends(desk, "pushdef(`g',1)!", 2, 1);
        checks.gives(desk, "undefine(`f')f pushdef(`g',8)g", "f 8");
        checks.same("count(4)", desk.count(4), 18);
        checks.same("count(5)", desk.count(5), 17);
    }
}
