/** Promises 26 to 28: what would be. */
final class WouldTest {
    public static void main(String[] args) {
        safeIn();
        safeInEdges();
        safeInPastTheEnd();
        sirenWould();
        sirenWouldBeFewer();
        sirenWouldEdges();
        trialKnowsAll();
        digest();
        digestNumbers();
        Check.end("WouldTest");
    }

    private static WarnWave walker() {
        WarnWave x = new WarnWave();
        x.until(10);
        x.lines(0);
        x.group(0, 9, 0, false, true);
        x.group(0, 9, 1, false, false);
        x.shelter(6, 20);
        Check.alertNow(x, 65535, 1, 7);
        return x;
    }

    private static void safeIn() {
        WarnWave x = walker();
        long before = x.digest();
        Check.due("26: three steps and in", x.safeIn(0, 60), 4);
        Check.due("26: just within", x.safeIn(0, 4), 4);
        Check.due("26: not within 3", x.safeIn(0, 3), -1);
        Check.due("26: never", x.safeIn(1, 60), -1);
        Check.due("26: nothing is changed", x.digest(), before);
        Check.due("26: nor now", x.many(0), 600);
        x.pass(3);
        Check.due("26: in one", x.safeIn(0, 1), 1);
        x.pass(1);
        Check.due("26: it is", x.safeIn(0, 1), 0);
        Check.due("26: it is", x.safeIn(0, 60), 0);
        x.siren(0, 0);
        Check.due("26: the siren will wake it", x.safeIn(1, 60), 5);
        x.pass(4);
        Check.due("26: not yet", x.ofGroup(1, 5), -1);
        x.pass(1);
        Check.due("26: as it was said", x.ofGroup(1, 5), 0);
    }

    private static void safeInEdges() {
        WarnWave x = walker();
        Check.dueThrows("26: group -1", x, Check.INDEX, () -> x.safeIn(-1, 5));
        Check.dueThrows("26: group 2", x, Check.INDEX, () -> x.safeIn(2, 0));
        Check.dueThrows("26: minutes 0", x, Check.ARGUMENT, () -> x.safeIn(0, 0));
        Check.dueThrows("26: minutes 61", x, Check.ARGUMENT, () -> x.safeIn(0, 61));
        x.pass(4);
        Check.dueThrows("26: minutes 61, though it is safe", x, Check.ARGUMENT, () -> x.safeIn(0, 61));
        WarnWave gone = walker();
        gone.danger(0, 0);
        gone.pass(5);
        Check.due("26: group 1 is gone", gone.ofGroup(1, 7), 1);
        gone.lines(3);
        Check.due("26: the gone are never safe", gone.safeIn(1, 60), -1);
        WarnWave soon = walker();
        soon.danger(0, 1);
        soon.siren(0, 0);
        soon.trust(1, 0);
        soon.mast(0, 0);
        soon.power(0, false);
        soon.lines(0);
        Check.due("26: it would be gone", soon.safeIn(1, 60), -1);
    }

    private static void safeInPastTheEnd() {
        WarnWave x = new WarnWave();
        for (int day = 0; day < 7; day++) {
            x.until(21);
        }
        Check.due("many(0)", x.many(0), 9900);
        x.pass(60);
        x.pass(38);
        Check.due("many(0)", x.many(0), 9998);
        x.group(0, 9, 0, false, false);
        x.shelter(8, 9);
        Check.alertNow(x, 1, 1, 1);
        Check.due("26: above 9999", x.safeIn(0, 60), 3);
        x.lines(0);
        Check.due("27: above 9999", x.sirenWould(0, 0, 60), 9);
        Check.due("many(0) stays", x.many(0), 9998);
    }

    private static void sirenWould() {
        WarnWave x = new WarnWave();
        x.until(10);
        x.lines(0);
        x.group(0, 10, 0, false, false);
        x.group(1, 20, 0, false, false);
        x.group(4, 40, 1, true, false);
        x.group(9, 80, 2, false, false);
        Check.alertNow(x, 65535, 0, 7);
        long before = x.digest();
        Check.due("27: not in 1 minute", x.sirenWould(0, 3, 1), 0);
        Check.due("27: not in 2 minutes", x.sirenWould(0, 3, 2), 0);
        Check.due("27: its cell alone, in 3", x.sirenWould(0, 0, 3), 10);
        Check.due("27: and the neighbour by hearsay", x.sirenWould(0, 0, 4), 30);
        Check.due("27: beside it, not the deaf", x.sirenWould(0, 1, 3), 30);
        Check.due("27: in its reach", x.sirenWould(0, 3, 3), 110);
        Check.due("27: nothing is changed", x.digest(), before);
        x.siren(0, 0);
        Check.due("27: what it adds", x.sirenWould(0, 1, 3), 20);
        Check.due("27: adds nothing", x.sirenWould(0, 0, 60), 0);
        for (int s = 1; s < 4; s++) {
            x.siren(15, 0);
        }
        Check.due("27: though there are 4", x.sirenWould(9, 0, 3), 80);
        x.power(9, false);
        Check.due("27: it has power", x.sirenWould(9, 0, 3), 80);
        x.pass(3);
        Check.due("27: who believes already", x.sirenWould(0, 1, 3), 0);
        Check.due("27: the others still", x.sirenWould(9, 0, 3), 80);
        Check.cancelNow(x, 0);
        Check.due("27: nothing is in force", x.sirenWould(9, 3, 60), 0);
    }

    /**
     * Before 6:00 nobody hears the radio. Woken by the siren, group 1 takes the room in its own cell; otherwise
     * the deaf group 0 takes it at 6:00, and group 1 goes to the far shelter, where it tells group 2.
     */
    private static void sirenWouldBeFewer() {
        WarnWave x = new WarnWave();
        x.until(5);
        x.pass(55);
        x.lines(0);
        x.group(0, 10, 1, true, true);
        x.group(0, 10, 0, false, true);
        x.group(13, 80, 0, false, false);
        x.shelter(0, 10);
        x.shelter(12, 200);
        Check.alertNow(x, 1, 1, 3);
        Check.due("27: woken earlier", x.sirenWould(0, 0, 4), 10);
        Check.due("27: awake by now", x.sirenWould(0, 0, 5), 0);
        Check.due("27: the same still", x.sirenWould(0, 0, 7), 0);
        Check.due("27: fewer", x.sirenWould(0, 0, 8), -80);
        x.pass(8);
        Check.due("27: without it, all believe", x.ofWarning(0, 8), 3);
    }

    private static void sirenWouldEdges() {
        WarnWave x = walker();
        Check.dueThrows("27: cell -1", x, Check.INDEX, () -> x.sirenWould(-1, 0, 1));
        Check.dueThrows("27: cell 16", x, Check.INDEX, () -> x.sirenWould(16, 4, 0));
        Check.dueThrows("27: reach -1", x, Check.ARGUMENT, () -> x.sirenWould(0, -1, 1));
        Check.dueThrows("27: reach 4", x, Check.ARGUMENT, () -> x.sirenWould(0, 4, 1));
        Check.dueThrows("27: minutes 0", x, Check.ARGUMENT, () -> x.sirenWould(0, 0, 0));
        Check.dueThrows("27: minutes 61", x, Check.ARGUMENT, () -> x.sirenWould(0, 0, 61));
        WarnWave gone = new WarnWave();
        gone.until(10);
        gone.lines(0);
        gone.group(0, 10, 0, false, false);
        gone.danger(0, 0);
        Check.alertNow(gone, 1, 0, 1);
        Check.due("27: gone or not", gone.sirenWould(0, 0, 10), 10);
        gone.pass(5);
        Check.due("27: who is gone hears nothing", gone.sirenWould(0, 0, 10), 0);
    }

    /** What would be depends on all that was told: each time, safeIn is what then happens. */
    private static void trialKnowsAll() {
        WarnWave trust = walker();
        trust.trust(0, 3);
        Check.due("26: with too little trust", trust.safeIn(0, 60), -1);
        WarnWave power = walker();
        power.siren(0, 0);
        power.power(0, false);
        Check.due("26: without power", power.safeIn(1, 60), -1);
        WarnWave mast = walker();
        mast.mast(0, 0);
        Check.due("26: by the mast", mast.safeIn(1, 60), 4);
        WarnWave danger = walker();
        danger.siren(0, 0);
        danger.danger(0, 0);
        danger.danger(4, 0);
        Check.due("26: harmed, but safe", danger.safeIn(1, 60), 6);
        danger.danger(5, 0);
        danger.danger(6, 0);
        Check.due("26: gone before", danger.safeIn(1, 60), -1);
        WarnWave lines = walker();
        lines.lines(1);
        Check.due("26: called behind group 0", lines.safeIn(1, 60), 5);
        WarnWave night = new WarnWave();
        night.until(23);
        night.lines(0);
        night.group(0, 9, 0, false, false);
        night.shelter(0, 9);
        night.mast(0, 0);
        Check.alertNow(night, 1, 1, 1);
        Check.due("26: the mast wakes it in the second minute", night.safeIn(0, 60), 2);
        WarnWave stay = walker();
        stay.pass(1);
        Check.updateNow(stay, 0, 65535, 0, 7);
        Check.due("26: it was told to stay", stay.safeIn(0, 60), -1);
    }

    /** Groups on the way to one shelter, and more and more of them by a siren, so that each number counts. */
    private static void digestNumbers() {
        WarnWave x = new WarnWave();
        x.until(10);
        x.lines(0);
        x.shelter(15, 200);
        x.group(0, 5, 2, true, true);
        x.trust(0, 4);
        Check.alertNow(x, 1, 1, 4);
        Check.due("28: safe in 7", x.safeIn(0, 60), 7);
        dueDigest(x);
        WarnWave night = new WarnWave();
        night.until(5);
        night.pass(57);
        night.lines(0);
        night.shelter(15, 200);
        night.group(0, 5, 2, true, true);
        night.group(1, 5, 1, true, true);
        Check.alertNow(night, 3, 1, 6);
        Check.due("28: safe in 9", night.safeIn(0, 60), 9);
        dueDigest(night);
        WarnWave nine = new WarnWave();
        nine.until(5);
        nine.pass(56);
        nine.lines(0);
        nine.shelter(15, 200);
        nine.group(0, 5, 2, true, true);
        Check.alertNow(nine, 1, 1, 4);
        Check.due("28: safe in 10", nine.safeIn(0, 60), 10);
        dueDigest(nine);
        WarnWave wave = new WarnWave();
        wave.until(10);
        wave.lines(0);
        int[] path = {6, 7, 11, 15, 14};
        for (int g = 0; g < path.length; g++) {
            wave.group(path[g], 10 + g, 0, g > 0, false);
        }
        wave.group(13, 50, 1, false, false);
        wave.group(4, 70, 2, false, false);
        Check.alertNow(wave, 65535, 0, 7);
        for (int minutes = 3; minutes <= 7; minutes++) {
            Check.due("28: more in each minute", wave.sirenWould(5, 1, minutes)
                    < wave.sirenWould(5, 1, minutes + 1), minutes < 7);
        }
        dueDigest(wave);
    }

    private static void dueDigest(WarnWave x) {
        Check.due("28: by the other calls", x.digest(), DigestByCalls.of(x));
    }

    private static void digest() {
        Check.due("28: of a new one", new WarnWave().digest(), 5877655695940251471L);
        WarnWave x = walker();
        x.pass(2);
        x.danger(0, 3);
        Check.updateNow(x, 0, 7, 1, 3);
        x.siren(1, 1);
        Check.due("28: by the other calls", x.digest(), DigestByCalls.of(x));
        Check.due("28: twice the same", x.digest(), DigestByCalls.of(x));
        x.pass(4);
        Check.due("28: later", x.digest(), DigestByCalls.of(x));
    }
}
