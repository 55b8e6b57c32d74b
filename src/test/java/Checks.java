/** What the tests share: a desk is driven by whole texts, and each wrong answer is printed. */
final class Checks {
    static final int ENOUGH = 5000;

    private int wrong = 0;

    void same(String call, long got, long due) {
        if (got != due) {
            wrong++;
            System.out.println(call + " answered " + got + ", due is " + due);
        }
    }

    void same(String call, String got, String due) {
        if (!got.equals(due)) {
            wrong++;
            System.out.println(call + " answered \"" + got + "\", due is \"" + due + "\"");
        }
    }

    static void type(RescanDesk desk, String text) {
        for (int i = 0; i < text.length(); i++) {
            desk.type(text.charAt(i));
        }
    }

    static int run(RescanDesk desk, String text) {
        return run(desk, text, ENOUGH);
    }

    static int run(RescanDesk desk, String text, int fuel) {
        type(desk, text);
        return desk.run(fuel);
    }

    static String row(RescanDesk desk, int r) {
        // An object is promised for 512 calls only, so the row's length is asked once.
        int length = desk.count(r);
        StringBuilder row = new StringBuilder();
        for (int k = 0; k < length; k++) {
            row.append(desk.output(r, k));
        }
        return row.toString();
    }

    /** A new desk's run of the text ends well, with this in row 0. */
    void gives(String text, String due) {
        gives(new RescanDesk(), text, due);
    }

    void gives(RescanDesk desk, String text, String due) {
        same("run of " + text, run(desk, text), 0);
        same("row 0 after " + text, row(desk, 0), due);
    }

    /** A new desk's run of the text ends with this error and leaves this in row 0. */
    RescanDesk errs(String text, int error, String due) {
        RescanDesk desk = new RescanDesk();
        errs(desk, text, error, due);
        return desk;
    }

    void errs(RescanDesk desk, String text, int error, String due) {
        same("run of " + text, run(desk, text), error);
        same("row 0 after " + text, row(desk, 0), due);
    }

    /** The run of the text ends so, and leaves so many characters of the front. */
    void ends(RescanDesk desk, String text, int error, int left) {
        same("run of " + text, run(desk, text), error);
        same("count(8) after " + text, desk.count(8), left);
    }

    /** count answers so, for 0, 1, 2, .. on. */
    void counts(RescanDesk desk, String when, int... due) {
        for (int what = 0; what < due.length; what++) {
            same("count(" + what + ") " + when, desk.count(what), due[what]);
        }
    }

    /** 0 nothing, 1 IllegalArgumentException, 2 IndexOutOfBoundsException, 3 another one. */
    static int thrownByOutput(RescanDesk desk, int r, int k) {
        try {
            desk.output(r, k);
            return 0;
        } catch (RuntimeException e) {
            return kind(e);
        }
    }

    static int thrownByRun(RescanDesk desk, int fuel) {
        try {
            desk.run(fuel);
            return 0;
        } catch (RuntimeException e) {
            return kind(e);
        }
    }

    private static int kind(RuntimeException e) {
        if (e.getClass() == IllegalArgumentException.class) {
            return 1;
        }
        return e.getClass() == IndexOutOfBoundsException.class ? 2 : 3;
    }

    void finish() {
        if (wrong > 0) {
            System.exit(1);
        }
    }
}
