/** Promise 4, the edges of what a step reads: a method for each sentence of the document's terms. */
public final class ReadingBoundsTest {
    public static void main(String[] args) {
        Checks checks = new Checks();
        charactersFrom0On(checks);
        blanksAre32And10(checks);
        firstCharactersOfNames(checks);
        laterCharactersOfNames(checks);
        namesAreAsLongAsThereAre(checks);
        theTopmostDefinitionCounts(checks);
        withoutARowAllIsLost(checks);
        quotesBelongTogether(checks);
        quotesWithoutAnEnd(checks);
        bracketsThatFollow(checks);
        depthFallsIfAbove0(checks);
        commasWithDepth0(checks);
        blanksBeforeAnything(checks);
        emptyIsSomething(checks);
        endInACall(checks);
        endJoinsTheRows(checks);
        checks.finish();
    }

    /** "CHARACTERS are those from 0 on." */
    private static void charactersFrom0On(Checks checks) {
        for (char c : new char[] {0, 1, 31, 127, 128, 255, 256, 0xd800, 65535}) {
            checks.gives("" + c, "" + c);
            checks.gives("len(" + c + c + ")", "2");
            checks.gives("define(`f',`" + c + "$1" + c + "')f(" + c + ")", "" + c + c + c);
            checks.gives("index(ab" + c + "," + c + ")", "2");
        }
    }

    /** "BLANKS are 32 and 10." */
    private static void blanksAre32And10(Checks checks) {
        checks.gives("len( \n \n)", "0");
        checks.gives("eval( \n1\n )", "1");
        for (char c : new char[] {0, 9, 11, 12, 13, 31, 33, 160, 0x2003}) {
            checks.gives("len(" + c + ")", "1");
            checks.errs("eval(1" + c + ")", 6, "");
        }
    }

    private static void isAName(Checks checks, String name, boolean due) {
        RescanDesk desk = new RescanDesk();
        checks.gives(desk, "define(`" + name + "',`!')", "");
        checks.same("count(4) after the name " + name, desk.count(4), due ? 17 : 16);
        checks.gives(desk, "<" + name + ">", due ? "<!>" : "<" + name + ">");
    }

    /** "A NAME: a letter (a .. z, A .. Z) or _". */
    private static void firstCharactersOfNames(Checks checks) {
        for (char c : "azAZ_".toCharArray()) {
            isAName(checks, "" + c, true);
        }
        // The neighbours of a, z, A, Z and _, and letters and digits beyond those.
        for (char c : "{@[^059/:-$ \u00aa\u00e9\u0130\u0660\uff21".toCharArray()) {
            isAName(checks, "" + c, false);
        }
        checks.gives("define(`',`!')ifdef(`',yes,no)", "no");
    }

    /** "and then letters, digits and _". */
    private static void laterCharactersOfNames(Checks checks) {
        for (char c : "azAZ_09".toCharArray()) {
            isAName(checks, "q" + c, true);
        }
        for (char c : "{@[^/:-$ \n\u00aa\u00e9\u0130\u0660\uff10".toCharArray()) {
            isAName(checks, "q" + c, false);
        }
        isAName(checks, "0q", false);
        isAName(checks, " q", false);
    }

    /** "as many as there are." */
    private static void namesAreAsLongAsThereAre(Checks checks) {
        checks.gives("lenx len1 len_ xlen _len Len lenlen", "lenx len1 len_ xlen _len Len lenlen");
        checks.gives("1len", "10");
        RescanDesk desk = new RescanDesk();
        Checks.run(desk, "len".repeat(100));
        checks.same("steps of one long name", desk.count(6), 1);
        checks.same("count(0) after one long name", desk.count(0), 300);
    }

    /** "a stack of DEFINITIONS, the topmost of which counts". */
    private static void theTopmostDefinitionCounts(Checks checks) {
        checks.gives("pushdef(`len',`<$1>')len(ab)popdef(`len')len(ab)", "<ab>2");
        checks.gives("pushdef(`f',1)pushdef(`f',2)pushdef(`f',3)f popdef(`f')f popdef(`f')f", "3 2 1");
    }

    /** "or, if there is none, they are lost." */
    private static void withoutARowAllIsLost(Checks checks) {
        RescanDesk desk = new RescanDesk();
        checks.same("run", Checks.run(desk, "a`'divert(4)b`c'(,)d`'len(xyz)1 \n`"), 3);
        checks.counts(desk, "after a lost text", 1, 0, 0, 0, 16, 16, 20, 1, 1, -1);
    }

    /** "with all up to the 39 that belongs to it (in between, each 96 opens another pair)". */
    private static void quotesBelongTogether(Checks checks) {
        checks.gives("`'", "");
        checks.gives("``''", "`'");
        checks.gives("`'`'", "");
        checks.gives("'", "'");
        checks.gives("`a''b'", "a'b'");
        checks.gives("`" + "`".repeat(100) + "'".repeat(100) + "'", "`".repeat(100) + "'".repeat(100));
        RescanDesk desk = new RescanDesk();
        Checks.run(desk, "`" + ".".repeat(298) + "'");
        checks.same("count(0) of a quote that is all", desk.count(0), 298);
        checks.same("its steps", desk.count(6), 1);
    }

    /** "QUOTE: there is none." and, of errors, "but nothing with QUOTE". */
    private static void quotesWithoutAnEnd(Checks checks) {
        checks.ends(new RescanDesk(), "`", 3, 1);
        checks.ends(new RescanDesk(), "``'", 3, 3);
        checks.ends(new RescanDesk(), "`len(a)", 3, 7);
        checks.ends(new RescanDesk(), "len(`)", 3, 2);
        checks.ends(new RescanDesk(), "'`", 3, 1);
        checks.ends(new RescanDesk(), "`" + ".".repeat(299), 3, 300);
    }

    /** "if a ( follows, it is read, too, ...; otherwise the macro is EXPANDED with no arguments." */
    private static void bracketsThatFollow(Checks checks) {
        RescanDesk desk = new RescanDesk();
        checks.gives(desk, "define(`f',`$#')f", "0");
        checks.gives(desk, "f()", "1");
        checks.gives(desk, "f ()", "0 ()");
        checks.gives(desk, "f\n()", "0\n()");
        checks.gives(desk, "f`'()", "0()");
        checks.gives(desk, "f)", "0)");
        checks.gives(desk, "f`'f", "00");
        checks.gives(desk, "nix()", "nix()");
    }

    /** "a ) is written and it falls by 1 if it is above 0; otherwise the call is no longer open". */
    private static void depthFallsIfAbove0(Checks checks) {
        checks.gives("len()", "0");
        checks.gives("len(())", "2");
        checks.gives("len(()())", "4");
        checks.gives("len((()))", "4");
        checks.gives("len())", "0)");
        checks.gives("len(`(')", "1");
        checks.gives("len(`)')", "1");
        checks.gives("len((a)" + "(".repeat(100) + ")".repeat(100) + ")", "203");
        checks.gives(")(", ")(");
        // Each call has a depth of its own.
        checks.gives("len((len((a)),b))", "5");
    }

    /** "a , with depth 0: the next argument is gathered". */
    private static void commasWithDepth0(Checks checks) {
        RescanDesk desk = new RescanDesk();
        checks.gives(desk, "define(`f',`$#<$1><$2>')f(,)", "2<><>");
        checks.gives(desk, "f((,))", "1<(,)><>");
        checks.gives(desk, "f((),)", "2<()><>");
        checks.gives(desk, "f(`,')", "1<,><>");
        checks.gives(desk, "f(,,,,,,,,)", "9<><>");
        checks.gives(desk, ",", ",");
    }

    /** "a blank while nothing but blanks was read for the argument is lost". */
    private static void blanksBeforeAnything(Checks checks) {
        RescanDesk desk = new RescanDesk();
        checks.gives(desk, "define(`f',`<$1><$2>')f( \n , \n )", "<><>");
        checks.gives(desk, "f( a \n, \n b \n)", "<a \n><b \n>");
        checks.gives(desk, "f(( a), ( b))", "<( a)><( b)>");
        checks.gives(desk, "f( ) f( , )", "<><> <><>");
        checks.gives(desk, "f(x ,y )", "<x ><y >");
        checks.gives(desk, "f(1 ,. )", "<1 ><. >");
        checks.gives(desk, " \n ", " \n ");
    }

    /** "(a quote with nothing in it and a macro are something)". */
    private static void emptyIsSomething(Checks checks) {
        RescanDesk desk = new RescanDesk();
        checks.gives(desk, "define(`e')define(`f',`<$1><$2>')f(`' , `' )", "< >< >");
        checks.gives(desk, "f(e , e )", "< >< >");
        checks.gives(desk, "f(e() , e( ) )", "< >< >");
        checks.gives(desk, "f( define(`g',1) g)", "< 1><>");
        // What was something for one argument is not for the next, nor for a call inside of it.
        checks.gives(desk, "f(`', a)", "<><a>");
        checks.gives(desk, "f(`'f( a), b)", "<<a><>><b>");
    }

    /** "At the end of the front: BRACKET, if a call is open". */
    private static void endInACall(Checks checks) {
        checks.ends(new RescanDesk(), "len(", 4, 0);
        checks.ends(new RescanDesk(), "len(()", 4, 0);
        checks.ends(new RescanDesk(), "len(len()", 4, 0);
        checks.ends(new RescanDesk(), "len(a,", 4, 0);
        checks.ends(new RescanDesk(), "len(`)'", 4, 0);
        checks.ends(new RescanDesk(), "(", 0, 0);
        RescanDesk desk = new RescanDesk();
        checks.ends(desk, "a`'divert(2)b`'divert(1)c`'len(d", 4, 0);
        checks.counts(desk, "after BRACKET", 1, 1, 1, 0, 16, 16, 14, 1, 0, 1);
    }

    /** "otherwise the rows 1, 2, 3 are added to row 0, in this order, and are empty; ..." */
    private static void endJoinsTheRows(Checks checks) {
        for (int present = 0; present <= 4; present++) {
            RescanDesk desk = new RescanDesk();
            String text = "divert(3)d`'divert(2)c`'divert(1)b`'divert(0)a`'divert(" + present + ")";
            checks.gives(desk, text, "abcd");
            checks.counts(desk, "after the end", 4, 0, 0, 0, 16, 16, 23, 1, 0, 0);
        }
        checks.gives("divert(3)d", "d");
        checks.gives("", "");
    }
}
