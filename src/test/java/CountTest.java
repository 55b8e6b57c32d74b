/** Promise 6: count. */
public final class CountTest {
    public static void main(String[] args) {
        Checks checks = new Checks();
        RescanDesk desk = new RescanDesk();
        Checks.run(desk, "ab`'divert(1)c`'divert(2)def`'pushdef(`f',1)pushdef(`f',2)len(len(len(1)).`xy");
        int[] due = {2, 1, 3, 0, 18, 17, 32, 3, 3, 2};
        for (int what = 0; what < due.length; what++) {
            checks.same("count(" + what + ")", desk.count(what), due[what]);
        }
        int[] wrong = {-1, 10, Integer.MIN_VALUE, Integer.MAX_VALUE};
        for (int what : wrong) {
            checks.same("count(" + what + ")", desk.count(what), RescanDesk.NONE);
        }
        Checks.run(desk, "divert(9)undefine(`f')`");
        checks.same("count(9) without a row", desk.count(9), RescanDesk.NONE);
        checks.same("count(4) after undefine", desk.count(4), 16);
        checks.same("count(5) after undefine", desk.count(5), 16);
        checks.same("count(7) of the latest run", desk.count(7), 1);
        Checks.run(desk, "len len");
        checks.same("count(7) without brackets", desk.count(7), 0);
        checks.same("count(0) of the latest run", desk.count(0), 3);
        checks.finish();
    }
}
