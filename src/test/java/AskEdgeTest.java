/** The edges that promises 18 to 28 name: NONE and 0 where there is nothing, the first and the last, what would be. */
final class AskEdgeTest {
    private static final int NONE = -1;

    public static void main(String[] args) {
        nothingYet();
        heardOfADraft();
        heardByNobody();
        latestOfSeveral();
        latestThere();
        chainOfGroupZero();
        chainOfTheSmallest();
        manyOfNothing();
        meanDelayWithoutAny();
        meanDelayNotRounded();
        safeInTheSixtiethMinute();
        safeInZeroIfItIs();
        sirenInTheFirstMinute();
        sirenInTheSixtiethMinute();
        sirenBesidesFour();
        goneOrNot();
        nothingIsChanged();
        digestWraps();
        digestOfTheLastMinute();
        Check.end("AskEdgeTest");
    }

    private static void nothingYet() {
        WarnWave x = new WarnWave();
        x.group(0, 1, 0, false, false);
        x.alert(1, 0, 1);
        Check.due("18: in no shelter", x.ofGroup(0, 5), NONE);
        Check.due("18: no harm", x.ofGroup(0, 6), 0);
        Check.due("18: it believes nothing", x.ofGroup(0, 8), NONE);
        Check.due("20: an alert is of no other one", x.ofWarning(0, 1), NONE);
        Check.due("20: approved by none", x.ofWarning(0, 5), 0);
        Check.due("20: not sent", x.ofWarning(0, 6), NONE);
        Check.due("20: believed by none", x.ofWarning(0, 8), 0);
        Check.due("21: none is in force", x.inForce(0), NONE);
        Check.due("23: not heard", x.chain(0, 0), 0);
    }

    private static void heardOfADraft() {
        WarnWave x = Check.byDay();
        x.group(0, 1, 0, false, true);
        x.alert(1, 0, 1);
        x.pass(5);
        for (int what = 0; what <= 4; what++) {
            Check.due("19: nobody hears a draft, " + what, x.heard(0, 0, what), what == 3 ? 0 : NONE);
        }
        WarnWave zero = new WarnWave();
        zero.group(0, 1, 0, false, false);
        Check.alertNow(zero, 1, 0, 1);
        zero.pass(1);
        int[] want = {1, 3, NONE, 8, 1};
        for (int what = 0; what <= 4; what++) {
            Check.due("19: in the first minute of all, " + what, zero.heard(0, 0, what), want[what]);
        }
    }

    private static void heardByNobody() {
        WarnWave x = Check.byDay();
        x.group(0, 1, 0, false, false);
        x.group(15, 1, 0, false, true);
        Check.alertNow(x, 1, 0, 1);
        x.pass(5);
        for (int g = 0; g < 2; g++) {
            for (int what = 0; what <= 4; what++) {
                Check.due("19: in force, but not heard, " + what, x.heard(g, 0, what), what == 3 ? 0 : NONE);
            }
            Check.due("23: in force, but not heard", x.chain(g, 0), 0);
        }
        x.trust(0, 0);
        x.lines(1);
        x.pass(1);
        int[] want = {606, 3, NONE, 8, NONE};
        for (int what = 0; what <= 4; what++) {
            Check.due("19: heard, but not believed, " + what, x.heard(0, 0, what), want[what]);
        }
    }

    private static void latestOfSeveral() {
        WarnWave x = Check.byDay();
        x.group(0, 1, 0, false, true);
        for (int w = 0; w < 11; w++) {
            Check.alertNow(x, w == 10 ? 2 : 1, 0, 1);
        }
        x.pass(1);
        Check.due("18: the latest that it believes", x.ofGroup(0, 8), 9);
        Check.due("20: it does not believe the last", x.ofWarning(10, 8), 0);
        Check.cancelNow(x, 9);
        Check.due("18: the latest in force", x.ofGroup(0, 8), 8);
        Check.due("20: it has believed it", x.ofWarning(9, 8), 1);
        WarnWave y = Check.byDay();
        y.group(0, 1, 0, false, true);
        y.alert(1, 0, 1);
        Check.alertNow(y, 1, 0, 1);
        y.pass(1);
        y.approve(0, 0);
        y.approve(0, 1);
        y.send(0);
        y.pass(1);
        Check.due("18: it believes both", y.ofWarning(0, 8) + y.ofWarning(1, 8), 2);
        Check.due("18: the greatest number, not the last sent", y.ofGroup(0, 8), 1);
    }

    private static void latestThere() {
        WarnWave x = new WarnWave();
        for (int w = 0; w < 12; w++) {
            x.alert(32769, 0, 1);
            x.approve(w, 0);
            x.approve(w, 1);
        }
        x.send(11);
        x.send(0);
        x.send(6);
        Check.due("21: the greatest number, not the last sent", x.inForce(0), 11);
        Check.due("21: the last cell", x.inForce(15), 11);
        Check.due("21: beside them", x.inForce(14), NONE);
        Check.due("24: in force", x.many(7), 3);
        Check.due("24: warnings", x.many(6), 12);
    }

    private static void chainOfGroupZero() {
        WarnWave x = Check.byDay();
        x.group(0, 1, 0, false, true);
        x.group(1, 1, 0, false, false);
        Check.alertNow(x, 1, 0, 1);
        x.pass(1);
        Check.due("23: group 0 at first hand", x.chain(0, 0), 10);
        Check.due("23: group 1 not yet", x.chain(1, 0), 0);
        x.pass(1);
        Check.due("23: group 1 from group 0", x.chain(1, 0), 110);
        x.pass(1);
        Check.due("23: what it hears back is no chain", x.chain(0, 0), 10);
        Check.updateNow(x, 0, 2, 0, 1);
        Check.due("23: of what is not in force", x.chain(1, 0), 110);
        Check.due("23: of what was not heard", x.chain(1, 1), 0);
        x.trust(1, 0);
        Check.cancelNow(x, 1);
        Check.due("23: of a cancel", x.chain(0, 2), 0);
    }

    private static void chainOfTheSmallest() {
        WarnWave x = Check.byDay();
        x.group(15, 1, 0, false, false);
        x.group(14, 1, 0, false, true);
        x.group(11, 1, 0, false, true);
        x.group(10, 1, 0, false, false);
        Check.alertNow(x, 65535, 0, 1);
        x.pass(2);
        Check.due("23: from the smallest number", x.chain(0, 0), 101);
        Check.due("23: from the smallest number", x.chain(3, 0), 131);
    }

    private static void manyOfNothing() {
        WarnWave x = new WarnWave();
        x.key(0, false);
        x.key(1, false);
        for (int what = 0; what <= 11; what++) {
            Check.due("24: nothing of " + what, x.many(what), 0);
        }
    }

    private static void meanDelayWithoutAny() {
        WarnWave x = Check.byDay();
        x.alert(1, 0, 1);
        Check.dueDouble("25: of a draft, without people", x.meanDelay(0), 0.0);
        x.group(0, 99, 0, false, true);
        Check.dueDouble("25: of a draft", x.meanDelay(0), 0.0);
        int far = Check.alertNow(x, 32768, 0, 1);
        x.pass(9);
        Check.dueDouble("25: nobody believed it", x.meanDelay(far), 0.0);
    }

    private static void meanDelayNotRounded() {
        WarnWave x = Check.byDay();
        x.pass(2);
        x.group(0, 1, 0, false, true);
        x.group(15, 2, 1, false, false);
        Check.alertNow(x, 32769, 0, 3);
        x.pass(1);
        x.siren(15, 0);
        x.pass(3);
        Check.dueDouble("25: one behind 1 minute, two behind 4", x.meanDelay(0), 3.0);
        x.group(8, 4, 2, false, false);
        int update = Check.updateNow(x, 0, 65535, 0, 7);
        x.pass(1);
        x.lines(3);
        x.pass(3);
        Check.dueDouble("25: from when the update was sent", x.meanDelay(update), 23.0 / 7.0);
        Check.dueDouble("25: of the other one still", x.meanDelay(0), 3.0);
    }

    /** Asleep from 5:00 on: at 6:00, in the sixtieth minute, the radio is heard. */
    private static WarnWave sixtyToSix() {
        WarnWave x = new WarnWave();
        x.until(5);
        x.lines(0);
        x.group(0, 5, 0, false, true);
        x.shelter(0, 5);
        Check.alertNow(x, 1, 1, 1);
        return x;
    }

    private static void safeInTheSixtiethMinute() {
        WarnWave x = sixtyToSix();
        Check.due("26: in the last one", x.safeIn(0, 60), 60);
        Check.due("26: not within 59", x.safeIn(0, 59), NONE);
        x.pass(59);
        Check.due("26: in the first one", x.safeIn(0, 1), 1);
    }

    private static void safeInZeroIfItIs() {
        WarnWave x = sixtyToSix();
        x.pass(60);
        Check.due("26: it is safe", x.safeIn(0, 60), 0);
        Check.due("26: it is safe", x.safeIn(0, 1), 0);
        Check.cancelNow(x, 0);
        Check.due("26: it is not any more", x.safeIn(0, 60), NONE);
    }

    private static void sirenInTheFirstMinute() {
        WarnWave x = Check.byDay();
        x.group(0, 5, 0, false, false);
        Check.alertNow(x, 1, 0, 1);
        Check.due("27: in 2 minutes nobody", x.sirenWould(0, 0, 2), 0);
        x.pass(2);
        Check.due("27: in the first one", x.sirenWould(0, 0, 1), 5);
        x.pass(1);
        Check.due("27: it missed that", x.sirenWould(0, 0, 1), 0);
        Check.due("27: and the next one", x.sirenWould(0, 0, 3), 5);
    }

    private static void sirenInTheSixtiethMinute() {
        WarnWave x = sixtyToSix();
        Check.due("27: by its radio it believes in the sixtieth", x.sirenWould(0, 0, 59), 5);
        Check.due("27: so that the siren adds nobody", x.sirenWould(0, 0, 60), 0);
        WarnWave y = Check.byDay();
        y.group(0, 5, 0, false, false);
        y.trust(0, 0);
        Check.alertNow(y, 1, 0, 1);
        Check.due("27: one way is too little", y.sirenWould(0, 3, 60), 0);
    }

    private static void sirenBesidesFour() {
        WarnWave x = Check.byDay();
        x.group(0, 5, 0, false, false);
        x.group(15, 7, 1, false, false);
        for (int k = 0; k < 4; k++) {
            x.siren(3, 0);
        }
        Check.alertNow(x, 65535, 0, 3);
        Check.due("27: a fifth", x.sirenWould(0, 0, 3), 5);
        Check.due("27: another fifth, not the first one too", x.sirenWould(15, 3, 3), 7);
        Check.due("27: it was not kept", x.power(0, false) + x.power(15, false), 0);
        Check.due("27: the four are", x.power(3, false), 4);
        Check.due("27: it has power, when the others have none", x.sirenWould(0, 0, 3), 5);
        x.pass(3);
        Check.due("27: nobody heard it", x.ofWarning(0, 8), 0);
    }

    private static void goneOrNot() {
        WarnWave x = Check.byDay();
        x.group(0, 5, 0, false, false);
        x.group(0, 7, 0, true, false);
        x.danger(0, 0);
        Check.alertNow(x, 1, 0, 1);
        Check.due("27: the first by siren, the second from it", x.sirenWould(0, 0, 4), 12);
        Check.due("27: and when they are gone", x.sirenWould(0, 0, 60), 12);
        x.pass(5);
        Check.due("27: who is gone already hears nothing", x.sirenWould(0, 0, 60), 0);
    }

    private static WarnWave busy() {
        WarnWave x = new WarnWave();
        x.until(21);
        x.pass(58);
        x.lines(2);
        for (int g = 0; g < 8; g++) {
            x.group((5 * g + 1) % 16, 10 + g, g % 2, g == 3, g % 3 == 0);
        }
        x.siren(3, 2);
        x.mast(9, 1);
        x.power(3, false);
        x.shelter(10, 25);
        x.shelter(0, 60);
        x.danger(1, 3);
        x.danger(11, 0);
        Check.alertNow(x, 65535, 1, 3);
        x.pass(2);
        return x;
    }

    private static void nothingIsChanged() {
        WarnWave x = busy();
        for (int k = 0; k < 16; k++) {
            x.safeIn(k % 8, 1 + k);
            x.sirenWould(k, k % 4, 60 - k);
            x.inForce(k);
            x.meanDelay(0);
            x.chain(k % 8, 0);
        }
        WarnWave untouched = busy();
        Check.due("what would be: nothing is changed", x.pass(5), untouched.pass(5));
        Check.dueAlike("what would be: nothing is changed", x, untouched);
    }

    private static void digestWraps() {
        WarnWave x = busy();
        Check.due("28: by the other calls", x.digest(), DigestByCalls.of(x));
        while (x.many(6) < 12) {
            Check.alertNow(x, 65535 - x.many(6), x.many(6) % 2, 1 + x.many(6) % 7);
            x.pass(1);
            Check.due("28: by the other calls", x.digest(), DigestByCalls.of(x));
        }
        Check.due("28: twice the same", x.digest(), x.digest());
    }

    private static void digestOfTheLastMinute() {
        WarnWave x = Check.inTheLastHour();
        x.group(5, 9, 0, false, false);
        x.shelter(5, 9);
        x.pass(39);
        Check.alertNow(x, 65535, 1, 1);
        Check.due("26: now is 9999", x.safeIn(0, 1), 1);
        Check.due("28: what would be above 9999", x.digest(), DigestByCalls.of(x));
        x.lines(0);
        Check.due("27: only by siren, in minute 10002", x.sirenWould(5, 0, 3), 9);
        Check.due("27: not yet in 10001", x.sirenWould(5, 0, 2), 0);
        Check.due("26: never", x.safeIn(0, 60), NONE);
    }
}
