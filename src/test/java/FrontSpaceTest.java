/** Promise 4, "SPACE: the front would have more than 600 characters", for all that is put before it. */
public final class FrontSpaceTest {
    private static final int ROOM = 600;
    private static final String X_98 = "x".repeat(98);
    private static final String X_99 = "x".repeat(99);

    public static void main(String[] args) {
        Checks checks = new Checks();
        everyPartOfABody(checks);
        aPartFarBehindTheEdge(checks);
        aBodyWithoutArguments(checks);
        textsOfThoseBuiltIn(checks);
        numbersOfThoseBuiltIn(checks);
        nothingIsPutBeforeAFullFront(checks);
        checks.finish();
    }

    /** Each part of a body is the last one, and ends just before, at and behind the edge. */
    private static void everyPartOfABody(Checks checks) {
        lastPart(checks, "$0", 6, 3);
        lastPart(checks, "$1", 5, 98);
        lastPart(checks, "$2", 6, 2);
        lastPart(checks, "$9", 6, 0);
        lastPart(checks, "$#", 6, 1);
        lastPart(checks, "$*", 5, 101);
        lastPart(checks, "$@", 5, 105);
        lastPart(checks, ".", 6, 1);
        lastPart(checks, "$", 6, 1);
        lastPart(checks, "$.", 6, 2);
        lastPart(checks, "$0.", 6, 4);
    }

    /** The part has that length; before it stand so many $1, of 98 characters, and dots. */
    private static void lastPart(Checks checks, String part, int firsts, int length) {
        for (int made = 597; made <= 604; made++) {
            String dots = ".".repeat(made - 98 * firsts - length);
            String body = "$1".repeat(firsts) + dots + part;
            for (int rest = 0; rest <= 2; rest++) {
                call(checks, body, "!".repeat(rest), made);
            }
        }
    }

    private static void call(Checks checks, String body, String rest, int made) {
        RescanDesk desk = new RescanDesk();
        Checks.run(desk, "define(`abc',`" + body + "')");
        int all = made + rest.length();
        String what = body + " with " + all;
        int error = Checks.run(desk, "abc(`" + X_98 + "',`yz')" + rest, 5);
        checks.same("run of " + what, error, all <= ROOM ? 1 : 2);
        checks.same("count(8) of " + what, desk.count(8), all <= ROOM ? all : rest.length());
        checks.same("count(6) of " + what, desk.count(6), 5);
    }

    /** A text that is much too long is refused whatever stands at its end. */
    private static void aPartFarBehindTheEdge(Checks checks) {
        for (String end : new String[] {"", "$0", "$1", "$2", "$9", "$#", "$*", "$@", "$0$#$0", "$"}) {
            call(checks, "$1".repeat(12) + end, "!", 2000);
            call(checks, "$@$@$@$@$@$@" + end, "!", 2000);
            call(checks, "$*".repeat(40) + end, "!", 2000);
        }
    }

    /** Without arguments it is the name that makes a body grow: 50 times 12 characters. */
    private static void aBodyWithoutArguments(Checks checks) {
        RescanDesk desk = new RescanDesk();
        Checks.run(desk, "define(`abcdefghijkl',`" + "$0".repeat(50) + "')");
        checks.same("50 names", Checks.run(desk, "abcdefghijkl", 1), 1);
        checks.same("count(8)", desk.count(8), ROOM);
        checks.same("50 names and one more", Checks.run(desk, "abcdefghijkl.", 1), 2);
        checks.same("count(8)", desk.count(8), 1);
    }

    /** A desk on which h gives 98 characters, and m(..) that call and then 3 times m's argument. */
    private static RescanDesk deskWith(String call) {
        RescanDesk desk = new RescanDesk();
        Checks.run(desk, "define(`h',``" + ".".repeat(98) + "'')define(`m',`" + call + "$1$1$1')");
        return desk;
    }

    /** 3 times h is put before 3 times an argument of 102 characters, and then before some more. */
    private static void textsOfThoseBuiltIn(Checks checks) {
        String h3 = "h`'h`'h";
        String[] calls = {"ifdef(`len'," + h3 + ")", "ifdef(`nix',," + h3 + ")", "ifelse(,," + h3 + ")",
            "ifelse(a,,," + h3 + ")", "substr(" + h3 + ",0)", "substr(" + h3 + ",0,294)"};
        for (String call : calls) {
            checks.ends(deskWith(call), "divert(9)m(`" + "1".repeat(102) + "')", 0, 0);
            checks.ends(deskWith(call), "divert(9)m(`" + "1".repeat(102) + "')2", 2, 307);
        }
        // With the quotes that shift puts round its argument there are 2 more.
        checks.ends(deskWith("shift(," + h3 + ")"), "divert(9)m(`" + "1".repeat(101) + "')2", 0, 0);
        checks.ends(deskWith("shift(," + h3 + ")"), "divert(9)m(`" + "1".repeat(101) + "')23", 2, 305);
    }

    /** A desk on which z(..), with 99 characters, ends a call with 599 characters behind it. */
    private static RescanDesk deskThatEndsACall() {
        RescanDesk desk = new RescanDesk();
        Checks.run(desk, "define(`z',`)$1$1$1$1$1$1.....')");
        return desk;
    }

    private static void oneFits(Checks checks, String callToItsEnd) {
        checks.ends(deskThatEndsACall(), "divert(9)" + callToItsEnd + "z(" + X_99 + ")", 0, 0);
    }

    private static void twoDoNot(Checks checks, String callToItsEnd) {
        checks.ends(deskThatEndsACall(), "divert(9)" + callToItsEnd + "z(" + X_99 + ")", 2, ROOM - 1);
    }

    private static void numbersOfThoseBuiltIn(Checks checks) {
        oneFits(checks, "incr(8");
        twoDoNot(checks, "incr(9");
        twoDoNot(checks, "incr(-2");
        twoDoNot(checks, "incr(9223372036854775807");
        oneFits(checks, "eval(3*3");
        twoDoNot(checks, "eval(3*4");
        twoDoNot(checks, "eval(-1");
        oneFits(checks, "len(123456789");
        twoDoNot(checks, "len(1234567890");
        oneFits(checks, "index(1234567890,0");
        twoDoNot(checks, "index(12345678900.,0.");
        twoDoNot(checks, "index(1,2");
        twoDoNot(checks, "divnum(");
        // Put and read: it is the row that has no room for the name of 594 characters then.
        checks.ends(deskThatEndsACall(), "divert(3)divnum(z(" + X_99 + ")", 2, 5);
    }

    /** With 600 characters in the front an expansion that puts nothing is fine. */
    private static void nothingIsPutBeforeAFullFront(Checks checks) {
        RescanDesk desk = new RescanDesk();
        Checks.run(desk, "define(`e')define(`y',`e$1$1$1$1$1$1.....')");
        checks.same("run", Checks.run(desk, "y(`" + X_99.replace('x', '1') + "')", 3), 1);
        checks.same("count(8)", desk.count(8), ROOM);
        checks.ends(desk, "divert(9)y(`" + X_99.replace('x', '1') + "')", 0, 0);
    }
}
