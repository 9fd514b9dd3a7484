/** What every test uses: it compares answers, counts the wrong ones, and ends with exit code 1 if there was one. */
final class Check {
    static final Class<?> INDEX = IndexOutOfBoundsException.class;
    static final Class<?> ARGUMENT = IllegalArgumentException.class;
    static final Class<?> STATE = IllegalStateException.class;

    private static int wrong = 0;
    private static int checked = 0;

    interface Call {
        Object run();
    }

    private Check() {
    }

    static void due(String what, long got, long want) {
        report(got == want, what, got, want);
    }

    static void due(String what, boolean got, boolean want) {
        report(got == want, what, got, want);
    }

    static void dueDouble(String what, double got, double want) {
        report(Double.compare(got, want) == 0, what, got, want);
    }

    /** The call throws exactly this kind (no class below it), and the object stays as it was. */
    static void dueThrows(String what, WarnWave x, Class<?> kind, Call call) {
        long before = x.digest();
        Class<?> thrown = null;
        try {
            call.run();
        } catch (RuntimeException e) {
            thrown = e.getClass();
        }
        report(thrown == kind, what, thrown, kind);
        report(x.digest() == before, what + " changes nothing", x.digest(), before);
    }

    /** Two lands are alike, also in what no question shows. Both are used up by it. */
    static void dueAlike(String what, WarnWave got, WarnWave want) {
        due(what + ": digest", got.digest(), want.digest());
        due(what + ": lines", got.lines(0), want.lines(0));
        for (int cell = 0; cell < 16; cell++) {
            String where = what + ": cell " + cell;
            due(where + ", danger from", got.danger(cell, -1), want.danger(cell, -1));
            due(where + ", with power", got.power(cell, false), want.power(cell, false));
            due(where + ", sirens and masts", got.power(cell, true), want.power(cell, true));
        }
    }

    private static void report(boolean isRight, String what, Object got, Object want) {
        checked++;
        if (!isRight) {
            wrong++;
            System.out.println(what + " answered " + got + ", due is " + want);
        }
    }

    static void end(String name) {
        System.out.println(name + ": " + checked + " checks, " + wrong + " wrong");
        if (wrong != 0) {
            System.exit(1);
        }
    }

    /** A land at 10:00 of the first day, with no line for calls, so that other ways can be told apart. */
    static WarnWave byDay() {
        WarnWave x = new WarnWave();
        x.until(10);
        x.lines(0);
        return x;
    }

    /** A land at 9960, 22:00 of the last day: 39 minutes are left. */
    static WarnWave inTheLastHour() {
        WarnWave x = new WarnWave();
        for (int day = 0; day < 7; day++) {
            x.until(22);
        }
        return x;
    }

    /** Drafts an ALERT, lets OFFICERS 0 and 1 approve it, and sends it. */
    static int alertNow(WarnWave x, int area, int advice, int tongues) {
        return sendNow(x, x.alert(area, advice, tongues));
    }

    static int updateNow(WarnWave x, int warning, int area, int advice, int tongues) {
        return sendNow(x, x.update(warning, area, advice, tongues));
    }

    static int cancelNow(WarnWave x, int warning) {
        return sendNow(x, x.cancel(warning));
    }

    private static int sendNow(WarnWave x, int warning) {
        x.approve(warning, 0);
        x.approve(warning, 1);
        x.send(warning);
        return warning;
    }
}
