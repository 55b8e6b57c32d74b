/** Promise 3: clear takes the text away and answers its length. */
public final class ClearTest {
    public static void main(String[] args) {
        Checks checks = new Checks();
        RescanDesk desk = new RescanDesk();
        checks.gives(desk, "define(`m',`n')m", "n");
        Checks.type(desk, "lost");
        checks.same("clear() with 4 characters", desk.clear(), 4);
        checks.same("clear() with none", desk.clear(), 0);
        checks.same("row 0 after clear()", Checks.row(desk, 0), "n");
        checks.same("count(4) after clear()", desk.count(4), 17);
        checks.gives(desk, "m.", "n.");
        checks.same("clear() after a run", desk.clear(), 0);
        Checks.type(desk, "x".repeat(301));
        checks.same("clear() with a full text", desk.clear(), 300);
        checks.same("type after clear()", desk.type('x') ? 1 : 0, 1);
        checks.same("clear() with 1 character", desk.clear(), 1);
        checks.finish();
    }
}
