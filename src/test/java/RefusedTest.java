/**
 * Every call of the face with every argument out of range, just so and by far, in a new land and in a full one: what
 * is thrown, which one of several, and that nothing is changed by it.
 */
final class RefusedTest {
    private static final int NO_CELL = 16;
    private static final int NO_GROUP = 8;
    private static final int NO_WARNING = 12;

    private interface Call {
        void on(WarnWave x, int value);
    }

    private interface PlainCall {
        void on(WarnWave x);
    }

    public static void main(String[] args) {
        group();
        trust();
        shelter();
        sirenAndMast();
        powerLinesAndDanger();
        key();
        alert();
        update();
        cancel();
        approve();
        send();
        passAndUntil();
        ofGroupAndHeard();
        ofWarningAndOthers();
        whatWouldBe();
        Check.end("RefusedTest");
    }

    /** As many of all as there can be, and the last minute: warning 2 is in force, 4 lacks one officer. */
    private static WarnWave full() {
        WarnWave x = Check.inTheLastHour();
        for (int g = 0; g < 8; g++) {
            x.group(2 * g, 10 + g, g % 3, g == 5, g % 2 == 0);
        }
        for (int k = 0; k < 4; k++) {
            x.siren(5 * k, k);
            x.mast(15 - k, k);
        }
        x.shelter(0, 20);
        x.shelter(15, 200);
        x.shelter(5, 50);
        x.power(5, false);
        x.lines(2);
        x.danger(3, 999);
        x.danger(4, 2);
        Check.alertNow(x, 65535, 0, 7);
        Check.cancelNow(x, 0);
        Check.alertNow(x, 255, 1, 3);
        x.update(2, 1, 0, 1);
        x.approve(x.cancel(2), 0);
        while (x.many(6) < 12) {
            x.alert(1, 0, 1);
        }
        x.pass(39);
        return x;
    }

    /** Room for more of all: warning 0 was cancelled by 1, and 2 is a draft. */
    private static WarnWave half() {
        WarnWave x = new WarnWave();
        x.group(0, 5, 0, false, false);
        x.danger(0, 500);
        Check.alertNow(x, 1, 0, 1);
        Check.cancelNow(x, 0);
        x.approve(x.alert(1, 0, 1), 0);
        return x;
    }

    private static int[] outside(int least, int most) {
        return new int[] {Integer.MIN_VALUE, least - 1, most + 1, Integer.MAX_VALUE};
    }

    private static void refused(String what, Class<?> kind, int[] values, Call call) {
        for (int value : values) {
            String each = what + " of " + value;
            one(each + ", new", kind, new WarnWave(), new WarnWave(), x -> call.on(x, value));
            one(each + ", full", kind, full(), full(), x -> call.on(x, value));
        }
    }

    private static void refusedIfNew(String what, Class<?> kind, PlainCall call) {
        one(what + ", new", kind, new WarnWave(), new WarnWave(), call);
    }

    private static void refusedIfHalf(String what, Class<?> kind, PlainCall call) {
        one(what + ", half full", kind, half(), half(), call);
    }

    private static void refusedIfFull(String what, Class<?> kind, PlainCall call) {
        one(what + ", full", kind, full(), full(), call);
    }

    private static void one(String what, Class<?> kind, WarnWave x, WarnWave untouched, PlainCall call) {
        Check.dueThrows(what, x, kind, () -> {
            call.on(x);
            return null;
        });
        Check.dueAlike(what, x, untouched);
    }

    private static void group() {
        refused("2: cell", Check.INDEX, outside(0, 15), (x, v) -> x.group(v, 5, 0, false, false));
        refused("2: people", Check.ARGUMENT, outside(1, 99), (x, v) -> x.group(0, v, 0, false, false));
        refused("2: tongue", Check.ARGUMENT, outside(0, 2), (x, v) -> x.group(0, 5, v, false, false));
        refused("2: cell ahead of people", Check.INDEX, outside(1, 99), (x, v) -> x.group(NO_CELL, v, 3, true, true));
        refusedIfFull("2: there were 8", Check.STATE, x -> x.group(0, 5, 0, false, false));
    }

    private static void trust() {
        refused("3: group", Check.INDEX, outside(0, 7), (x, v) -> x.trust(v, 5));
        refused("3: group ahead of trust", Check.INDEX, outside(0, 9), (x, v) -> x.trust(NO_GROUP, v));
        refusedIfNew("3: no group at all", Check.INDEX, x -> x.trust(0, 5));
        for (int trust : outside(0, 9)) {
            refusedIfFull("3: trust of " + trust, Check.ARGUMENT, x -> x.trust(7, trust));
        }
    }

    private static void shelter() {
        refused("4: cell", Check.INDEX, outside(0, 15), (x, v) -> x.shelter(v, 5));
        refused("4: room", Check.ARGUMENT, outside(1, 200), (x, v) -> x.shelter(0, v));
        refused("4: cell ahead of room", Check.INDEX, outside(1, 200), (x, v) -> x.shelter(NO_CELL, v));
        refusedIfFull("4: there were 3", Check.STATE, x -> x.shelter(0, 5));
    }

    private static void sirenAndMast() {
        refused("5: cell", Check.INDEX, outside(0, 15), (x, v) -> x.siren(v, 1));
        refused("5: reach", Check.ARGUMENT, outside(0, 3), (x, v) -> x.siren(0, v));
        refused("5: cell ahead of reach", Check.INDEX, outside(0, 3), (x, v) -> x.siren(NO_CELL, v));
        refusedIfFull("5: there were 4", Check.STATE, x -> x.siren(7, 1));
        refused("6: cell", Check.INDEX, outside(0, 15), (x, v) -> x.mast(v, 1));
        refused("6: reach", Check.ARGUMENT, outside(0, 3), (x, v) -> x.mast(0, v));
        refused("6: cell ahead of reach", Check.INDEX, outside(0, 3), (x, v) -> x.mast(NO_CELL, v));
        refusedIfFull("6: there were 4", Check.STATE, x -> x.mast(7, 1));
    }

    private static void powerLinesAndDanger() {
        refused("7: cell, off", Check.INDEX, outside(0, 15), (x, v) -> x.power(v, false));
        refused("7: cell, on", Check.INDEX, outside(0, 15), (x, v) -> x.power(v, true));
        refused("8: lines", Check.ARGUMENT, outside(0, 3), (x, v) -> x.lines(v));
        refused("9: cell", Check.INDEX, outside(0, 15), (x, v) -> x.danger(v, 5));
        refused("9: later", Check.ARGUMENT, outside(-1, 999), (x, v) -> x.danger(3, v));
        refused("9: cell ahead of later", Check.INDEX, outside(-1, 999), (x, v) -> x.danger(NO_CELL, v));
    }

    private static void key() {
        refused("10: officer, given", Check.INDEX, outside(0, 3), (x, v) -> x.key(v, true));
        refused("10: officer, taken", Check.INDEX, outside(0, 3), (x, v) -> x.key(v, false));
    }

    private static void alert() {
        refused("11: area", Check.ARGUMENT, outside(1, 65535), (x, v) -> x.alert(v, 0, 1));
        refused("11: advice", Check.ARGUMENT, outside(0, 1), (x, v) -> x.alert(1, v, 1));
        refused("11: tongues", Check.ARGUMENT, outside(1, 7), (x, v) -> x.alert(1, 0, v));
        refusedIfFull("11: there were 12", Check.STATE, x -> x.alert(1, 0, 1));
    }

    private static void update() {
        refused("12: warning", Check.INDEX, outside(0, 11), (x, v) -> x.update(v, 1, 0, 1));
        refused("12: warning ahead of area", Check.INDEX, outside(1, 65535), (x, v) -> x.update(NO_WARNING, v, 0, 1));
        refused("12: warning ahead of advice", Check.INDEX, outside(0, 1), (x, v) -> x.update(NO_WARNING, 1, v, 1));
        refused("12: warning ahead of tongues", Check.INDEX, outside(1, 7), (x, v) -> x.update(NO_WARNING, 1, 0, v));
        refusedIfNew("12: no warning at all", Check.INDEX, x -> x.update(0, 1, 0, 1));
        for (int warning : new int[] {0, 1, 2}) {
            String of = "12: of " + warning;
            for (int area : outside(1, 65535)) {
                refusedIfHalf(of + ", area " + area, Check.ARGUMENT, x -> x.update(warning, area, 0, 1));
                refusedIfFull(of + ", area " + area, Check.ARGUMENT, x -> x.update(warning, area, 0, 1));
            }
            for (int advice : outside(0, 1)) {
                refusedIfHalf(of + ", advice " + advice, Check.ARGUMENT, x -> x.update(warning, 1, advice, 1));
                refusedIfFull(of + ", advice " + advice, Check.ARGUMENT, x -> x.update(warning, 1, advice, 1));
            }
            for (int tongues : outside(1, 7)) {
                refusedIfHalf(of + ", tongues " + tongues, Check.ARGUMENT, x -> x.update(warning, 1, 0, tongues));
                refusedIfFull(of + ", tongues " + tongues, Check.ARGUMENT, x -> x.update(warning, 1, 0, tongues));
            }
        }
        refusedIfHalf("12: of one cancelled", Check.STATE, x -> x.update(0, 1, 0, 1));
        refusedIfHalf("12: of a cancel", Check.STATE, x -> x.update(1, 1, 0, 1));
        refusedIfHalf("12: of a draft", Check.STATE, x -> x.update(2, 1, 0, 1));
        refusedIfFull("12: there were 12", Check.STATE, x -> x.update(2, 1, 0, 1));
    }

    private static void cancel() {
        refused("13: warning", Check.INDEX, outside(0, 11), (x, v) -> x.cancel(v));
        refusedIfNew("13: no warning at all", Check.INDEX, x -> x.cancel(0));
        refusedIfHalf("13: of one cancelled", Check.STATE, x -> x.cancel(0));
        refusedIfHalf("13: of a cancel", Check.STATE, x -> x.cancel(1));
        refusedIfHalf("13: of a draft", Check.STATE, x -> x.cancel(2));
        refusedIfFull("13: there were 12", Check.STATE, x -> x.cancel(2));
    }

    private static void approve() {
        refused("14: warning", Check.INDEX, outside(0, 11), (x, v) -> x.approve(v, 0));
        refused("14: officer", Check.INDEX, outside(0, 3), (x, v) -> x.approve(5, v));
        refusedIfNew("14: no warning at all", Check.INDEX, x -> x.approve(0, 0));
        refusedIfFull("14: officer of one sent", Check.INDEX, x -> x.approve(0, 4));
        refusedIfFull("14: one sent", Check.STATE, x -> x.approve(0, 3));
        refusedIfFull("14: one sent, by who has approved it", Check.STATE, x -> x.approve(0, 0));
        refusedIfHalf("14: again", Check.STATE, x -> x.approve(2, 0));
    }

    private static void send() {
        refused("15: warning", Check.INDEX, outside(0, 11), (x, v) -> x.send(v));
        refusedIfNew("15: no warning at all", Check.INDEX, x -> x.send(0));
        refusedIfFull("15: an alert twice", Check.STATE, x -> x.send(2));
        refusedIfFull("15: a cancel twice", Check.STATE, x -> x.send(1));
        refusedIfFull("15: two are lacking", Check.STATE, x -> x.send(3));
        refusedIfFull("15: one is lacking", Check.STATE, x -> x.send(4));
    }

    private static void passAndUntil() {
        refused("16: minutes", Check.ARGUMENT, outside(1, 60), (x, v) -> x.pass(v));
        refusedIfFull("16: one above 9999", Check.STATE, x -> x.pass(1));
        refusedIfFull("16: far above 9999", Check.STATE, x -> x.pass(60));
        refused("17: hour", Check.ARGUMENT, outside(0, 23), (x, v) -> x.until(v));
        refusedIfFull("17: one is in force", Check.STATE, x -> x.until(23));
    }

    private static void ofGroupAndHeard() {
        refused("18: group", Check.INDEX, outside(0, 7), (x, v) -> x.ofGroup(v, 0));
        refused("18: group ahead of what", Check.INDEX, outside(0, 8), (x, v) -> x.ofGroup(NO_GROUP, v));
        refusedIfNew("18: no group at all", Check.INDEX, x -> x.ofGroup(0, 0));
        for (int what : outside(0, 8)) {
            refusedIfFull("18: what of " + what, Check.ARGUMENT, x -> x.ofGroup(7, what));
        }
        refused("19: group", Check.INDEX, outside(0, 7), (x, v) -> x.heard(v, 0, 0));
        refused("19: warning", Check.INDEX, outside(0, 11), (x, v) -> x.heard(0, v, 0));
        refused("19: group ahead of what", Check.INDEX, outside(0, 4), (x, v) -> x.heard(NO_GROUP, 0, v));
        refused("19: warning ahead of what", Check.INDEX, outside(0, 4), (x, v) -> x.heard(0, NO_WARNING, v));
        for (int what : outside(0, 4)) {
            refusedIfFull("19: what of " + what, Check.ARGUMENT, x -> x.heard(7, 11, what));
        }
    }

    private static void ofWarningAndOthers() {
        refused("20: warning", Check.INDEX, outside(0, 11), (x, v) -> x.ofWarning(v, 0));
        refused("20: warning ahead of what", Check.INDEX, outside(0, 8), (x, v) -> x.ofWarning(NO_WARNING, v));
        refusedIfNew("20: no warning at all", Check.INDEX, x -> x.ofWarning(0, 0));
        for (int what : outside(0, 8)) {
            refusedIfFull("20: what of " + what, Check.ARGUMENT, x -> x.ofWarning(11, what));
        }
        refused("21: cell", Check.INDEX, outside(0, 15), (x, v) -> x.inForce(v));
        refused("22: shelter", Check.INDEX, outside(0, 2), (x, v) -> x.roomIn(v));
        refusedIfNew("22: no shelter at all", Check.INDEX, x -> x.roomIn(0));
        refused("23: group", Check.INDEX, outside(0, 7), (x, v) -> x.chain(v, 0));
        refused("23: warning", Check.INDEX, outside(0, 11), (x, v) -> x.chain(0, v));
        refused("24: what", Check.ARGUMENT, outside(0, 11), (x, v) -> x.many(v));
        refused("25: warning", Check.INDEX, outside(0, 11), (x, v) -> x.meanDelay(v));
        refusedIfNew("25: no warning at all", Check.INDEX, x -> x.meanDelay(0));
    }

    private static void whatWouldBe() {
        refused("26: group", Check.INDEX, outside(0, 7), (x, v) -> x.safeIn(v, 5));
        refused("26: group ahead of minutes", Check.INDEX, outside(1, 60), (x, v) -> x.safeIn(NO_GROUP, v));
        refusedIfNew("26: no group at all", Check.INDEX, x -> x.safeIn(0, 5));
        for (int minutes : outside(1, 60)) {
            refusedIfFull("26: minutes of " + minutes, Check.ARGUMENT, x -> x.safeIn(7, minutes));
        }
        refused("27: cell", Check.INDEX, outside(0, 15), (x, v) -> x.sirenWould(v, 1, 5));
        refused("27: reach", Check.ARGUMENT, outside(0, 3), (x, v) -> x.sirenWould(0, v, 5));
        refused("27: minutes", Check.ARGUMENT, outside(1, 60), (x, v) -> x.sirenWould(0, 1, v));
        refused("27: cell ahead of reach", Check.INDEX, outside(0, 3), (x, v) -> x.sirenWould(NO_CELL, v, 5));
        refused("27: cell ahead of minutes", Check.INDEX, outside(1, 60), (x, v) -> x.sirenWould(NO_CELL, 1, v));
    }
}
