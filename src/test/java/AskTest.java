/** Promises 18 to 25: what one asks. */
final class AskTest {
    public static void main(String[] args) {
        ofGroup();
        heard();
        ofWarning();
        inForce();
        roomIn();
        chain();
        longestChain();
        many();
        meanDelay();
        Check.end("AskTest");
    }

    private static void ofGroup() {
        WarnWave x = new WarnWave();
        Check.dueThrows("18: none yet", x, Check.INDEX, () -> x.ofGroup(0, 0));
        x.until(10);
        x.group(4, 30, 2, true, true);
        x.trust(0, 8);
        x.danger(4, 0);
        x.shelter(5, 200);
        x.shelter(4, 31);
        x.pass(2);
        Check.alertNow(x, 16, 1, 4);
        Check.alertNow(x, 16, 0, 4);
        x.pass(1);
        Check.cancelNow(x, 1);
        int[] before = {4, 30, 2, 9, 0, -1, 3, 0, 0};
        int[] after = {4, 30, 2, 9, 0, 1, 3, 0, 0};
        dueGroup("18: ahead", x, before);
        x.pass(1);
        dueGroup("18: safe", x, after);
        Check.dueThrows("18: group -1", x, Check.INDEX, () -> x.ofGroup(-1, 0));
        Check.dueThrows("18: group 1", x, Check.INDEX, () -> x.ofGroup(1, 9));
        Check.dueThrows("18: what -1", x, Check.ARGUMENT, () -> x.ofGroup(0, -1));
        Check.dueThrows("18: what 9", x, Check.ARGUMENT, () -> x.ofGroup(0, 9));
    }

    private static void dueGroup(String what, WarnWave x, int[] want) {
        for (int k = 0; k < want.length; k++) {
            Check.due(what + " ofGroup(0, " + k + ")", x.ofGroup(0, k), want[k]);
        }
    }

    private static void heard() {
        WarnWave x = new WarnWave();
        x.until(10);
        x.group(0, 5, 0, false, true);
        Check.dueThrows("19: no warning yet", x, Check.INDEX, () -> x.heard(0, 0, 0));
        Check.alertNow(x, 1, 0, 1);
        int[] none = {-1, -1, -1, 0, -1};
        int[] some = {601, 2, -1, 12, 601};
        for (int what = 0; what <= 4; what++) {
            Check.due("19: not heard, " + what, x.heard(0, 0, what), none[what]);
        }
        x.pass(1);
        for (int what = 0; what <= 4; what++) {
            Check.due("19: heard, " + what, x.heard(0, 0, what), some[what]);
        }
        Check.cancelNow(x, 0);
        for (int what = 0; what <= 4; what++) {
            Check.due("19: known behind the cancel, " + what, x.heard(0, 0, what), some[what]);
            Check.due("19: nobody hears a cancel, " + what, x.heard(0, 1, what), none[what]);
        }
        Check.dueThrows("19: group -1", x, Check.INDEX, () -> x.heard(-1, 0, 0));
        Check.dueThrows("19: group 1", x, Check.INDEX, () -> x.heard(1, 0, 5));
        Check.dueThrows("19: warning -1", x, Check.INDEX, () -> x.heard(0, -1, 0));
        Check.dueThrows("19: warning 2", x, Check.INDEX, () -> x.heard(0, 2, 5));
        Check.dueThrows("19: what -1", x, Check.ARGUMENT, () -> x.heard(0, 0, -1));
        Check.dueThrows("19: what 5", x, Check.ARGUMENT, () -> x.heard(0, 0, 5));
    }

    private static void ofWarning() {
        WarnWave x = new WarnWave();
        Check.dueThrows("20: none yet", x, Check.INDEX, () -> x.ofWarning(0, 0));
        x.until(10);
        x.group(0, 5, 0, false, true);
        x.group(0, 5, 1, false, true);
        Check.alertNow(x, 1, 1, 7);
        x.pass(1);
        Check.updateNow(x, 0, 3, 0, 2);
        x.pass(1);
        int[][] want = {{0, -1, 1, 1, 7, 3, 600, 0, 2}, {1, 0, 3, 0, 2, 3, 601, 1, 1}};
        for (int w = 0; w < 2; w++) {
            for (int what = 0; what <= 8; what++) {
                Check.due("20: ofWarning(" + w + ", " + what + ")", x.ofWarning(w, what), want[w][what]);
            }
        }
        Check.dueThrows("20: warning -1", x, Check.INDEX, () -> x.ofWarning(-1, 0));
        Check.dueThrows("20: warning 2", x, Check.INDEX, () -> x.ofWarning(2, 9));
        Check.dueThrows("20: what -1", x, Check.ARGUMENT, () -> x.ofWarning(0, -1));
        Check.dueThrows("20: what 9", x, Check.ARGUMENT, () -> x.ofWarning(0, 9));
    }

    private static void inForce() {
        WarnWave x = new WarnWave();
        Check.alertNow(x, 32769, 0, 1);
        Check.alertNow(x, 1, 0, 1);
        x.alert(65535, 0, 1);
        Check.due("21: the latest", x.inForce(0), 1);
        Check.due("21: in the last cell", x.inForce(15), 0);
        Check.due("21: none", x.inForce(7), -1);
        Check.cancelNow(x, 1);
        Check.due("21: the older again", x.inForce(0), 0);
        Check.updateNow(x, 0, 2, 0, 1);
        Check.due("21: none any more", x.inForce(0), -1);
        Check.due("21: the update", x.inForce(1), 4);
        Check.dueThrows("21: cell -1", x, Check.INDEX, () -> x.inForce(-1));
        Check.dueThrows("21: cell 16", x, Check.INDEX, () -> x.inForce(16));
    }

    private static void roomIn() {
        WarnWave x = new WarnWave();
        Check.dueThrows("22: none yet", x, Check.INDEX, () -> x.roomIn(0));
        x.shelter(3, 50);
        x.until(10);
        x.group(3, 20, 0, false, true);
        Check.alertNow(x, 8, 1, 1);
        x.pass(1);
        Check.due("22: what is left", x.roomIn(0), 30);
        Check.dueThrows("22: shelter -1", x, Check.INDEX, () -> x.roomIn(-1));
        Check.dueThrows("22: shelter 1", x, Check.INDEX, () -> x.roomIn(1));
    }

    private static void chain() {
        WarnWave x = new WarnWave();
        x.until(10);
        x.lines(0);
        x.group(2, 1, 0, false, false);
        x.group(1, 1, 0, false, false);
        x.group(0, 1, 0, false, true);
        x.group(15, 1, 0, false, false);
        Check.alertNow(x, 1, 0, 1);
        Check.due("23: not heard", x.chain(2, 0), 0);
        x.pass(3);
        Check.due("23: at first hand", x.chain(2, 0), 12);
        Check.due("23: at second hand", x.chain(1, 0), 112);
        Check.due("23: at third hand", x.chain(0, 0), 1012);
        Check.due("23: never heard", x.chain(3, 0), 0);
        Check.dueThrows("23: group -1", x, Check.INDEX, () -> x.chain(-1, 0));
        Check.dueThrows("23: group 4", x, Check.INDEX, () -> x.chain(4, 0));
        Check.dueThrows("23: warning -1", x, Check.INDEX, () -> x.chain(0, -1));
        Check.dueThrows("23: warning 1", x, Check.INDEX, () -> x.chain(0, 1));
    }

    private static void longestChain() {
        WarnWave x = new WarnWave();
        x.until(10);
        x.lines(0);
        int[] path = {0, 1, 2, 3, 7, 11, 15, 14};
        for (int g = 0; g < 8; g++) {
            x.group(path[g], 1, 0, false, g == 0);
        }
        Check.alertNow(x, 1, 0, 1);
        x.pass(7);
        Check.due("23: not yet at the end", x.chain(7, 0), 0);
        Check.due("23: but before it", x.chain(6, 0), 16543210);
        x.pass(1);
        Check.due("23: by all groups", x.chain(7, 0), 176543210);
    }

    private static void many() {
        WarnWave x = new WarnWave();
        x.until(23);
        x.group(0, 5, 0, false, false);
        x.group(15, 7, 1, false, false);
        x.group(15, 11, 2, true, false);
        x.shelter(0, 6);
        x.danger(15, 0);
        x.danger(14, 0);
        x.danger(13, 8);
        Check.alertNow(x, 1, 1, 1);
        x.alert(1, 0, 1);
        x.key(3, true);
        x.pass(4);
        int[] want = {1384, 23, 3, 23, 5, 0, 2, 1, 49152, 2, 1, 11};
        for (int what = 0; what <= 11; what++) {
            Check.due("24: many(" + what + ")", x.many(what), want[what]);
        }
        x.pass(4);
        int[] later = {1388, 23, 3, 23, 5, 18, 2, 1, 57344, 0, 1, 11};
        for (int what = 0; what <= 11; what++) {
            Check.due("24: later many(" + what + ")", x.many(what), later[what]);
        }
        Check.dueThrows("24: what -1", x, Check.ARGUMENT, () -> x.many(-1));
        Check.dueThrows("24: what 12", x, Check.ARGUMENT, () -> x.many(12));
    }

    private static void meanDelay() {
        WarnWave x = new WarnWave();
        x.until(10);
        x.group(0, 10, 0, false, false);
        x.group(15, 20, 0, false, false);
        x.group(10, 99, 0, true, false);
        x.group(1, 3, 0, false, false);
        Check.alertNow(x, 65535, 0, 1);
        Check.dueDouble("25: nobody yet", x.meanDelay(0), 0.0);
        x.pass(1);
        Check.dueDouble("25: one", x.meanDelay(0), 1.0);
        x.pass(1);
        Check.dueDouble("25: each by its people", x.meanDelay(0), 56.0 / 33.0);
        Check.cancelNow(x, 0);
        Check.dueDouble("25: behind the cancel", x.meanDelay(0), 56.0 / 33.0);
        Check.dueDouble("25: of a cancel", x.meanDelay(1), 0.0);
        Check.dueThrows("25: -1", x, Check.INDEX, () -> x.meanDelay(-1));
        Check.dueThrows("25: 2", x, Check.INDEX, () -> x.meanDelay(2));
        WarnWave gone = new WarnWave();
        gone.until(10);
        gone.group(0, 4, 0, false, true);
        gone.group(0, 4, 1, false, true);
        gone.danger(0, 0);
        gone.trust(1, 0);
        gone.lines(0);
        Check.alertNow(gone, 1, 0, 7);
        gone.pass(3);
        gone.trust(1, 9);
        gone.pass(5);
        Check.due("all are gone", gone.many(5), 8);
        Check.dueDouble("25: of those that are gone, too", gone.meanDelay(0), 2.5);
    }
}
