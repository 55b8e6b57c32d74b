/** Promise 1: a new object has no text, and the definitions that are built in. */
public final class NewObjectTest {
    private static final String[] BUILT_IN = {
        "define", "pushdef", "popdef", "undefine", "ifdef", "ifelse", "incr", "eval",
        "len", "substr", "index", "shift", "divert", "undivert", "divnum", "dnl"};

    public static void main(String[] args) {
        Checks checks = new Checks();
        checks.same("NONE", RescanDesk.NONE, -1);
        countsOfANewObject(checks);
        checks.same("clear() of a new object", new RescanDesk().clear(), 0);
        checks.same("run(0) of a new object", new RescanDesk().run(0), 0);
        for (String name : BUILT_IN) {
            checks.gives("ifdef(`" + name + "',yes,no)", "yes");
        }
        checks.gives("ifdef(`other',yes,no)", "no");
        objectsAreApart(checks);
        checks.finish();
    }

    private static void countsOfANewObject(Checks checks) {
        RescanDesk desk = new RescanDesk();
        int[] due = {0, 0, 0, 0, 16, 16, 0, 0, 0, 0};
        for (int what = 0; what < due.length; what++) {
            checks.same("count(" + what + ") of a new object", desk.count(what), due[what]);
        }
        for (int r = 0; r < 4; r++) {
            checks.same("output of a new object", Checks.thrownByOutput(desk, r, 0), 2);
        }
    }

    private static void objectsAreApart(Checks checks) {
        RescanDesk one = new RescanDesk();
        RescanDesk other = new RescanDesk();
        checks.gives(one, "define(`len',`mine')len", "mine");
        checks.gives(other, "len(abc)", "3");
        checks.same("count(4) of the other object", other.count(4), 16);
    }
}
