/** Promises 16 and 17, and chapter 3: minutes go by. */
final class MinuteTest {
    private static final int SIREN = 1;
    private static final int MAST = 2;
    private static final int RADIO = 4;
    private static final int CALL = 8;
    private static final int NEIGHBOUR = 16;

    public static void main(String[] args) {
        pass();
        until();
        siren();
        mast();
        mastInTheNight();
        radio();
        calls();
        callsAndLines();
        neighbours();
        neighboursAhead();
        firstHeard();
        believing();
        waysNeeded();
        sleeping();
        going();
        nearestShelter();
        roomRunsOut();
        latestAdvice();
        harm();
        goneDoNothing();
        fullLand();
        Check.end("MinuteTest");
    }

    private static void pass() {
        WarnWave x = new WarnWave();
        Check.due("16: nobody believes", x.pass(60), 0);
        Check.due("16: now", x.many(0), 60);
        Check.dueThrows("16: minutes 0", x, Check.ARGUMENT, () -> x.pass(0));
        Check.dueThrows("16: minutes 61", x, Check.ARGUMENT, () -> x.pass(61));
        Check.dueThrows("16: minutes -1", x, Check.ARGUMENT, () -> x.pass(-1));
        for (int day = 0; day < 6; day++) {
            x.until(23);
        }
        x.until(21);
        Check.due("many(0) near the end", x.many(0), 9900);
        x.pass(60);
        Check.dueThrows("16: above 9999", x, Check.STATE, () -> x.pass(40));
        Check.dueThrows("16: minutes first", x, Check.ARGUMENT, () -> x.pass(61));
        x.pass(39);
        Check.due("16: the last minute", x.many(0), 9999);
        Check.dueThrows("16: behind the last", x, Check.STATE, () -> x.pass(1));
        WarnWave y = Check.byDay();
        y.group(0, 1, 0, false, true);
        y.group(0, 1, 1, false, true);
        Check.alertNow(y, 1, 0, 7);
        Check.alertNow(y, 1, 0, 2);
        Check.due("16: each warning by itself", y.pass(2), 3);
        Check.due("16: only in these minutes", y.pass(2), 0);
    }

    private static void until() {
        WarnWave x = new WarnWave();
        Check.due("17: the hour of now begins later", x.until(0), 1440);
        Check.due("17: next hour", x.until(1), 1500);
        x.pass(1);
        Check.due("17: the same hour again", x.until(1), 2940);
        x.pass(59);
        Check.due("17: within a minute", x.until(2), 3000);
        Check.due("17: hour before", x.until(1), 4380);
        Check.due("17: hour", x.many(1), 1);
        Check.dueThrows("17: hour -1", x, Check.ARGUMENT, () -> x.until(-1));
        Check.dueThrows("17: hour 24", x, Check.ARGUMENT, () -> x.until(24));
        Check.alertNow(x, 1, 0, 1);
        Check.dueThrows("17: one is in force", x, Check.STATE, () -> x.until(5));
        Check.dueThrows("17: hour first", x, Check.ARGUMENT, () -> x.until(24));
        Check.cancelNow(x, 0);
        x.group(3, 5, 0, false, false);
        x.danger(3, 0);
        Check.due("17: behind a cancel", x.until(2), 4440);
        Check.due("17: nothing else happens", x.ofGroup(0, 6), 0);
        WarnWave y = new WarnWave();
        for (int day = 0; day < 7; day++) {
            y.until(22);
        }
        Check.due("many(0) near the end", y.many(0), 9960);
        Check.dueThrows("17: above 9999", y, Check.STATE, () -> y.until(23));
        Check.dueThrows("17: far above 9999", y, Check.STATE, () -> y.until(22));
    }

    private static void siren() {
        WarnWave x = Check.byDay();
        x.group(5, 1, 0, false, false);
        x.group(5, 1, 0, true, false);
        x.group(8, 1, 2, false, false);
        x.group(0, 1, 0, false, false);
        x.group(15, 1, 0, false, false);
        for (int g = 0; g < 5; g++) {
            x.trust(g, 0);
        }
        x.siren(5, 2);
        Check.alertNow(x, 65535 - 1, 0, 1);
        x.pass(2);
        Check.due("WAY 0: only in each third minute", x.heard(0, 0, 3), 0);
        x.pass(1);
        Check.due("WAY 0: heard", x.heard(0, 0, 3), SIREN);
        Check.due("WAY 0: the minute", x.heard(0, 0, 0), 603);
        Check.due("WAY 0: not the deaf", x.heard(1, 0, 3), 0);
        Check.due("WAY 0: whatever its tongue", x.heard(2, 0, 3), SIREN);
        Check.due("WAY 0: not outside the area", x.heard(3, 0, 3), 0);
        Check.due("WAY 0: not farther than its reach", x.heard(4, 0, 3), 0);
        WarnWave y = Check.byDay();
        y.group(5, 1, 0, false, false);
        y.siren(5, 0);
        y.power(5, false);
        Check.alertNow(y, 65535, 0, 7);
        y.pass(6);
        Check.due("WAY 0: not without power", y.heard(0, 0, 3), 0);
        y.power(5, true);
        y.pass(3);
        Check.due("WAY 0: with power again", y.heard(0, 0, 3), SIREN);
        WarnWave z = new WarnWave();
        z.lines(0);
        z.group(5, 1, 0, false, false);
        z.siren(1, 1);
        Check.alertNow(z, 65535, 0, 7);
        z.pass(3);
        Check.due("WAY 0: asleep", z.heard(0, 0, 3), SIREN);
    }

    private static void mast() {
        WarnWave x = Check.byDay();
        x.group(5, 1, 0, true, false);
        x.group(8, 1, 2, false, false);
        x.group(15, 1, 0, false, false);
        x.group(0, 1, 0, false, false);
        for (int g = 0; g < 4; g++) {
            x.trust(g, 0);
        }
        x.mast(5, 3);
        Check.alertNow(x, 65534, 0, 3);
        x.pass(1);
        Check.due("WAY 1: even the deaf", x.heard(0, 0, 3), MAST);
        Check.due("WAY 1: only its tongue", x.heard(1, 0, 3), 0);
        Check.due("WAY 1: not farther than its reach", x.heard(2, 0, 3), 0);
        Check.due("WAY 1: not outside the area", x.heard(3, 0, 3), 0);
        x.power(5, false);
        Check.alertNow(x, 65535, 0, 7);
        x.pass(3);
        Check.due("WAY 1: not without power", x.heard(0, 1, 3), 0);
        Check.due("WAY 1: what was heard stays", x.heard(0, 0, 3), MAST);
    }

    private static void mastInTheNight() {
        WarnWave x = new WarnWave();
        x.until(23);
        x.lines(0);
        x.group(5, 1, 0, false, false);
        x.group(15, 1, 0, false, false);
        x.mast(5, 0);
        Check.alertNow(x, 65535, 0, 7);
        x.pass(1);
        Check.due("WAY 1: not asleep in the first minute", x.heard(0, 0, 3), 0);
        x.pass(1);
        Check.due("WAY 1: asleep, when it was sent 2 minutes ago", x.heard(0, 0, 3), MAST);
        Check.due("WAY 1: the minute", x.heard(0, 0, 0), 1382);
        x.pass(5);
        Check.due("WAY 1: out of reach also later", x.heard(1, 0, 3), 0);
    }

    private static void radio() {
        WarnWave x = Check.byDay();
        x.group(0, 1, 0, true, true);
        x.group(3, 1, 0, false, false);
        x.group(6, 1, 1, false, true);
        x.group(15, 1, 0, false, true);
        Check.alertNow(x, 32767, 0, 1);
        x.pass(1);
        Check.due("WAY 2: heard", x.heard(0, 0, 3), RADIO);
        Check.due("WAY 2: who has none", x.heard(1, 0, 3), 0);
        Check.due("WAY 2: only its tongue", x.heard(2, 0, 3), 0);
        Check.due("WAY 2: not outside the area", x.heard(3, 0, 3), 0);
        WarnWave y = new WarnWave();
        y.lines(0);
        y.group(0, 1, 0, false, true);
        Check.alertNow(y, 65535, 0, 7);
        y.pass(60);
        Check.due("WAY 2: not asleep", y.heard(0, 0, 3), 0);
    }

    private static void calls() {
        WarnWave x = new WarnWave();
        x.group(0, 1, 0, true, false);
        x.group(15, 1, 0, false, false);
        x.group(2, 1, 1, false, false);
        x.group(4, 1, 0, false, false);
        x.group(10, 1, 0, false, false);
        Check.alertNow(x, 32767, 0, 1);
        x.pass(1);
        Check.due("WAY 3: not the deaf", x.heard(0, 0, 3), 0);
        Check.due("WAY 3: not outside the area", x.heard(1, 0, 3), 0);
        Check.due("WAY 3: only its tongue", x.heard(2, 0, 3), 0);
        Check.due("WAY 3: the first, asleep", x.heard(3, 0, 3), CALL);
        Check.due("WAY 3: one in a minute", x.heard(4, 0, 3), 0);
        Check.due("WAY 3: calls", x.many(10), 1);
        x.pass(1);
        Check.due("WAY 3: the next", x.heard(4, 0, 3), CALL);
        Check.due("WAY 3: calls", x.many(10), 2);
        x.pass(5);
        Check.due("WAY 3: nobody is called twice", x.many(10), 2);
    }

    private static void callsAndLines() {
        WarnWave x = new WarnWave();
        x.group(0, 1, 0, false, false);
        x.group(3, 1, 0, false, false);
        x.group(12, 1, 1, false, false);
        for (int w = 0; w < 4; w++) {
            Check.alertNow(x, 65535, 0, w == 1 ? 4 : 7);
        }
        x.lines(2);
        x.pass(1);
        Check.due("WAY 3: warning 0 takes a line", x.heard(0, 0, 3), CALL);
        Check.due("WAY 3: who has no one to call takes none", x.heard(0, 1, 3), 0);
        Check.due("WAY 3: warning 2 takes the last", x.heard(0, 2, 3), CALL);
        Check.due("WAY 3: none is left", x.heard(0, 3, 3), 0);
        Check.due("WAY 3: calls", x.many(10), 2);
        x.lines(3);
        x.pass(2);
        Check.due("WAY 3: calls", x.many(10), 8);
        Check.due("WAY 3: warning 3 is called too", x.heard(1, 3, 3), CALL);
        x.lines(0);
        x.pass(2);
        Check.due("WAY 3: without lines", x.many(10), 8);
        Check.due("WAY 3: the first for warning 0 of all", x.heard(2, 0, 3), CALL);
        Check.due("WAY 3: not the last for warning 3", x.heard(2, 3, 3), 0);
    }

    private static void neighbours() {
        WarnWave x = Check.byDay();
        x.group(5, 1, 0, false, true);
        x.group(5, 1, 0, true, false);
        x.group(9, 1, 0, false, false);
        x.group(10, 1, 0, false, false);
        x.group(6, 1, 1, false, false);
        x.group(7, 1, 0, false, false);
        Check.alertNow(x, 32, 0, 1);
        x.pass(1);
        Check.due("WAY 4: not in the same minute", x.heard(1, 0, 3), 0);
        x.pass(1);
        Check.due("WAY 4: in the same cell, deaf or not", x.heard(1, 0, 3), NEIGHBOUR);
        Check.due("WAY 4: beside it, outside the area", x.heard(2, 0, 3), NEIGHBOUR);
        Check.due("WAY 4: not two away", x.heard(3, 0, 3), 0);
        Check.due("WAY 4: only the same tongue", x.heard(4, 0, 3), 0);
        Check.due("WAY 4: the teller has not heard it so", x.heard(0, 0, 3), RADIO);
        x.pass(1);
        Check.due("WAY 4: the teller hears it back", x.heard(0, 0, 3), RADIO + NEIGHBOUR);
        Check.due("WAY 4: from one to the next", x.heard(3, 0, 3), NEIGHBOUR);
        Check.due("WAY 4: from whom", x.heard(3, 0, 2), 2);
        x.pass(9);
        Check.due("WAY 4: column 3 is too far from column 2 of the next row", x.heard(5, 0, 3), 0);
        WarnWave y = Check.byDay();
        y.group(3, 1, 0, false, true);
        y.group(4, 1, 0, false, false);
        Check.alertNow(y, 8, 0, 1);
        y.pass(5);
        Check.due("WAY 4: cells 3 and 4 are not beside each other", y.heard(1, 0, 3), 0);
    }

    private static void neighboursAhead() {
        WarnWave x = new WarnWave();
        x.lines(0);
        x.group(0, 1, 2, false, false);
        x.group(1, 1, 2, false, false);
        x.siren(0, 0);
        Check.alertNow(x, 1, 0, 1);
        x.pass(4);
        Check.due("WAY 4: asleep, and of no tongue that it has", x.heard(1, 0, 3), NEIGHBOUR);
        Check.due("WAY 4: from", x.heard(1, 0, 2), 0);
        WarnWave y = Check.byDay();
        y.group(0, 1, 0, false, true);
        y.group(1, 1, 0, false, false);
        y.danger(0, 1);
        Check.alertNow(y, 1, 0, 1);
        y.pass(1);
        y.trust(0, 5);
        y.group(4, 1, 0, false, false);
        y.pass(4);
        Check.due("WAY 4: group 0 is gone", y.ofGroup(0, 7), 1);
        Check.due("WAY 4: it told it ahead of that", y.heard(2, 0, 0), 602);
        y.group(0, 1, 0, false, false);
        y.group(0, 1, 1, false, false);
        y.pass(1);
        Check.due("WAY 4: from the one that is not gone", y.heard(3, 0, 2), 1);
        Check.updateNow(y, 0, 2, 0, 1);
        y.group(1, 1, 0, false, false);
        y.pass(3);
        Check.due("WAY 4: nothing of what is not in force", y.heard(5, 0, 3), 0);
    }

    private static void firstHeard() {
        WarnWave x = Check.byDay();
        x.lines(1);
        x.group(0, 1, 0, false, true);
        x.group(1, 1, 0, false, false);
        x.group(4, 1, 0, false, false);
        x.group(5, 1, 0, false, false);
        x.trust(0, 3);
        x.trust(3, 3);
        x.mast(0, 0);
        x.siren(5, 0);
        Check.due("19: not yet", x.alert(1 + 32, 0, 1), 0);
        x.approve(0, 0);
        x.approve(0, 1);
        x.send(0);
        x.pass(1);
        Check.due("first: the minute", x.heard(0, 0, 0), 601);
        Check.due("first: the smallest way", x.heard(0, 0, 1), 1);
        Check.due("first: from nobody", x.heard(0, 0, 2), -1);
        Check.due("first: all ways", x.heard(0, 0, 3), MAST + RADIO + CALL);
        x.pass(1);
        Check.due("first: it stays the first", x.heard(3, 0, 1), 3);
        Check.due("first: neighbours", x.heard(1, 0, 1), 4);
        Check.due("first: from the neighbour", x.heard(1, 0, 2), 0);
        x.pass(1);
        Check.due("first: a later smaller way changes nothing", x.heard(3, 0, 1), 3);
        Check.due("first: nor the minute", x.heard(3, 0, 0), 602);
        Check.due("first: nor from whom", x.heard(3, 0, 2), -1);
        Check.due("first: the set grows", x.heard(3, 0, 3), SIREN + CALL + NEIGHBOUR);
        WarnWave all = Check.byDay();
        all.group(0, 1, 0, false, true);
        all.siren(1, 1);
        all.mast(4, 1);
        all.lines(3);
        all.pass(2);
        Check.alertNow(all, 1, 0, 1);
        all.pass(1);
        Check.due("first: all ways but neighbours at once", all.heard(0, 0, 3), SIREN + MAST + RADIO + CALL);
        Check.due("first: the siren is the smallest", all.heard(0, 0, 1), 0);
        WarnWave y = Check.byDay();
        y.group(0, 1, 0, false, true);
        y.group(5, 1, 0, false, false);
        y.group(2, 1, 0, false, true);
        y.group(1, 1, 0, false, false);
        Check.alertNow(y, 5, 0, 1);
        y.pass(2);
        Check.due("first: the smallest of several", y.heard(3, 0, 2), 0);
        WarnWave z = Check.byDay();
        z.group(0, 1, 0, false, true);
        z.group(1, 1, 0, false, false);
        z.siren(1, 0);
        z.pass(1);
        Check.alertNow(z, 3, 0, 1);
        z.pass(2);
        Check.due("first: siren and neighbour at once", z.heard(1, 0, 3), SIREN + NEIGHBOUR);
        Check.due("first: the smaller counts", z.heard(1, 0, 1), 0);
        Check.due("first: then from nobody", z.heard(1, 0, 2), -1);
    }

    private static void believing() {
        WarnWave x = Check.byDay();
        x.group(0, 1, 0, false, true);
        x.trust(0, 0);
        Check.alertNow(x, 1, 0, 1);
        Check.due("believing: one way is too little", x.pass(3), 0);
        Check.due("believing: not yet", x.heard(0, 0, 4), -1);
        x.lines(1);
        Check.due("believing: by two ways", x.pass(1), 1);
        Check.due("believing: the minute", x.heard(0, 0, 4), 604);
        Check.due("believing: first heard", x.heard(0, 0, 0), 601);
        WarnWave y = Check.byDay();
        y.group(0, 1, 0, false, true);
        y.trust(0, 3);
        Check.alertNow(y, 1, 0, 1);
        y.pass(1);
        y.trust(0, 4);
        Check.due("believing: with more trust", y.pass(1), 1);
        y.trust(0, 0);
        y.pass(1);
        Check.due("believing: it stays so", y.ofGroup(0, 8), 0);
        WarnWave z = Check.byDay();
        z.group(0, 1, 0, false, true);
        z.trust(0, 3);
        Check.alertNow(z, 1, 0, 1);
        z.pass(1);
        Check.updateNow(z, 0, 2, 0, 1);
        z.trust(0, 9);
        Check.due("believing: only what is in force", z.pass(3), 0);
    }

    private static void waysNeeded() {
        for (int trust = 0; trust <= 9; trust++) {
            WarnWave x = Check.byDay();
            x.group(0, 1, 0, false, true);
            x.trust(0, trust);
            Check.alertNow(x, 1, 0, 1);
            Check.due("believing by one way with trust " + trust, x.pass(1), trust <= 3 ? 0 : 1);
            x.lines(1);
            Check.due("believing by two ways with trust " + trust, x.pass(1), trust <= 3 ? 1 : 0);
        }
    }

    private static void sleeping() {
        WarnWave x = new WarnWave();
        x.group(0, 1, 0, false, true);
        for (int hour = 1; hour <= 24; hour++) {
            x.until(hour % 24);
            boolean isNight = hour >= 22 || hour <= 5;
            Check.due("night at " + hour, x.ofGroup(0, 4), isNight ? 1 : 0);
            Check.due("sleepers at " + hour, x.many(9), isNight ? 1 : 0);
        }
        x.until(21);
        x.pass(59);
        Check.alertNow(x, 1, 0, 1);
        x.lines(0);
        x.pass(1);
        Check.due("asleep by the hour of this minute", x.heard(0, 0, 3), 0);
        Check.due("it sleeps", x.ofGroup(0, 4), 1);
        x.lines(1);
        x.pass(1);
        Check.due("believing wakes", x.ofGroup(0, 4), 0);
        Check.due("asleep ahead of this minute", x.heard(0, 0, 3), CALL);
        x.pass(1);
        Check.due("awake then", x.heard(0, 0, 3), CALL + RADIO);
        Check.cancelNow(x, 0);
        Check.due("asleep again behind the cancel", x.ofGroup(0, 4), 1);
        WarnWave y = new WarnWave();
        y.until(5);
        y.pass(59);
        y.group(0, 1, 0, false, true);
        y.lines(0);
        Check.alertNow(y, 1, 0, 1);
        y.pass(1);
        Check.due("awake by the hour of this minute", y.heard(0, 0, 3), RADIO);
        WarnWave z = new WarnWave();
        z.group(0, 1, 0, false, true);
        z.danger(0, 0);
        z.pass(5);
        Check.due("the gone do not sleep", z.ofGroup(0, 4), 0);
        Check.due("the gone are no sleepers", z.many(9), 0);
    }

    private static void duePath(WarnWave x, int... cells) {
        for (int cell : cells) {
            x.pass(1);
            Check.due("going at " + x.many(0), x.ofGroup(0, 0), cell);
            Check.due("not safe at " + x.many(0), x.ofGroup(0, 5), -1);
        }
        x.pass(1);
        Check.due("into it", x.ofGroup(0, 5), 0);
        Check.due("in its cell", x.ofGroup(0, 0), cells[cells.length - 1]);
    }

    private static void going() {
        WarnWave x = Check.byDay();
        x.group(0, 9, 0, false, true);
        x.shelter(10, 9);
        Check.alertNow(x, 1, 1, 1);
        duePath(x, 4, 8, 9, 10);
        Check.due("room is less", x.roomIn(0), 0);
        x.pass(5);
        Check.due("it stays there", x.ofGroup(0, 5), 0);
        Check.due("room is less once", x.roomIn(0), 0);
        WarnWave y = Check.byDay();
        y.group(15, 9, 0, false, true);
        y.shelter(1, 200);
        Check.alertNow(y, 32768, 1, 1);
        duePath(y, 11, 7, 3, 2, 1);
        Check.due("room is less", y.roomIn(0), 191);
        WarnWave stay = Check.byDay();
        stay.group(0, 9, 0, false, true);
        stay.shelter(0, 200);
        Check.alertNow(stay, 1, 0, 1);
        stay.pass(3);
        Check.due("with STAY it stays", stay.ofGroup(0, 5), -1);
        WarnWave no = Check.byDay();
        no.group(0, 9, 0, false, true);
        no.shelter(1, 200);
        Check.alertNow(no, 2, 1, 1);
        no.pass(3);
        Check.due("who does not believe stays", no.ofGroup(0, 0), 0);
    }

    private static void nearestShelter() {
        WarnWave x = Check.byDay();
        x.group(0, 9, 0, false, true);
        x.shelter(15, 200);
        x.shelter(8, 200);
        x.shelter(2, 200);
        Check.alertNow(x, 1, 1, 1);
        x.pass(1);
        Check.due("of several the smallest number", x.ofGroup(0, 0), 4);
        x.pass(2);
        Check.due("the nearest", x.ofGroup(0, 5), 1);
        WarnWave y = Check.byDay();
        y.group(0, 9, 0, false, true);
        y.shelter(0, 8);
        y.shelter(1, 9);
        Check.alertNow(y, 1, 1, 1);
        y.pass(2);
        Check.due("one with room for all of it", y.ofGroup(0, 5), 1);
        Check.due("that is full", y.roomIn(1), 0);
        Check.due("the other is not used", y.roomIn(0), 8);
    }

    private static void roomRunsOut() {
        WarnWave x = Check.byDay();
        x.group(0, 9, 0, false, true);
        x.group(0, 9, 1, false, true);
        x.shelter(0, 17);
        x.shelter(15, 9);
        Check.alertNow(x, 1, 1, 7);
        x.pass(1);
        Check.due("the first is in", x.ofGroup(0, 5), 0);
        Check.due("the second goes elsewhere in the same minute", x.ofGroup(1, 0), 4);
        x.shelter(4, 8);
        x.pass(1);
        Check.due("it goes on", x.ofGroup(1, 0), 8);
        WarnWave y = Check.byDay();
        y.group(0, 9, 0, false, true);
        y.shelter(3, 8);
        Check.alertNow(y, 1, 1, 7);
        y.pass(4);
        Check.due("without any room it stays", y.ofGroup(0, 0), 0);
    }

    private static void latestAdvice() {
        WarnWave x = Check.byDay();
        x.group(0, 9, 0, false, true);
        x.shelter(3, 200);
        Check.alertNow(x, 1, 1, 1);
        Check.alertNow(x, 2, 0, 1);
        x.pass(1);
        Check.due("only the first is heard", x.ofGroup(0, 0), 1);
        x.pass(1);
        Check.due("the latest says stay", x.ofGroup(0, 0), 1);
        Check.due("the latest", x.ofGroup(0, 8), 1);
        Check.cancelNow(x, 1);
        x.pass(1);
        Check.due("the older one again", x.ofGroup(0, 0), 2);
        x.trust(0, 5);
        Check.updateNow(x, 0, 4, 0, 1);
        x.pass(2);
        Check.due("the update says stay", x.ofGroup(0, 0), 2);
        Check.due("the latest", x.ofGroup(0, 8), 3);
    }

    private static void harm() {
        WarnWave x = Check.byDay();
        x.group(6, 10, 0, false, false);
        x.group(5, 20, 0, false, false);
        x.danger(6, 2);
        x.pass(1);
        Check.due("no danger yet", x.ofGroup(0, 6), 0);
        x.pass(1);
        Check.due("danger by now", x.ofGroup(0, 6), 1);
        x.danger(6, -1);
        x.pass(3);
        Check.due("danger is over", x.ofGroup(0, 6), 1);
        x.danger(6, 0);
        x.pass(3);
        Check.due("not gone with 4", x.ofGroup(0, 7), 0);
        x.pass(1);
        Check.due("gone with 5", x.ofGroup(0, 7), 1);
        Check.due("people gone", x.many(5), 10);
        x.pass(3);
        Check.due("no more harm than 5", x.ofGroup(0, 6), 5);
        Check.due("the other has none", x.ofGroup(1, 6), 0);
        WarnWave y = Check.byDay();
        y.group(1, 10, 0, false, true);
        y.shelter(0, 10);
        y.danger(0, 0);
        y.danger(1, 0);
        Check.alertNow(y, 3, 1, 1);
        y.pass(1);
        Check.due("harm where it went", y.ofGroup(0, 6), 1);
        y.pass(9);
        Check.due("none in a shelter", y.ofGroup(0, 6), 1);
    }

    private static void goneDoNothing() {
        WarnWave x = Check.byDay();
        x.group(6, 10, 0, false, true);
        x.group(6, 10, 0, false, false);
        x.danger(6, 0);
        Check.alertNow(x, 64, 1, 1);
        x.pass(5);
        Check.due("both are gone", x.many(5), 20);
        Check.due("it still believes", x.ofGroup(0, 8), 0);
        x.shelter(6, 200);
        x.lines(3);
        Check.alertNow(x, 64, 1, 7);
        Check.due("the gone believe nothing new", x.pass(6), 0);
        Check.due("the gone hear nothing", x.heard(0, 1, 3), 0);
        Check.due("the gone are not called", x.many(10), 0);
        Check.due("the gone go nowhere", x.many(4), 0);
        Check.due("believers of the first", x.ofWarning(0, 8), 2);
    }

    /** As many of all as there can be. */
    private static void fullLand() {
        WarnWave x = Check.byDay();
        x.lines(3);
        for (int g = 0; g < 8; g++) {
            x.group(2 * g, 10 + g, g % 3, g == 5, g % 2 == 0);
        }
        for (int k = 0; k < 4; k++) {
            x.siren(5 * k, k);
            x.mast(15 - k, k);
            x.key(k, true);
        }
        x.shelter(0, 20);
        x.shelter(15, 200);
        x.shelter(5, 50);
        for (int cell = 8; cell < 16; cell++) {
            x.danger(cell, 7);
        }
        for (int w = 0; w < 12; w++) {
            Check.alertNow(x, 65535, w % 2, 7);
        }
        Check.due("full: by radio or mast", x.pass(1), 72);
        Check.due("full: calls", x.many(10), 3);
        Check.due("full: the latest of group 7", x.ofGroup(7, 8), 11);
        Check.due("full: by calls, then by siren", x.pass(2), 24);
        Check.due("full: the latest of group 5", x.ofGroup(5, 8), 11);
        Check.due("full: in force", x.many(7), 12);
        Check.due("full: in force in cell 15", x.inForce(15), 11);
        Check.dueDouble("full: delay", x.meanDelay(11), (84.0 + 24.0 * 3.0) / 108.0);
        Check.due("full: who believed the last", x.ofWarning(11, 8), 8);
        Check.due("full: by the other calls", x.digest(), DigestByCalls.of(x));
        Check.due("full: a fifth siren", x.sirenWould(10, 3, 5), 0);
        x.pass(10);
        Check.due("full: all are safe", x.many(4), 108);
        Check.due("full: by the other calls", x.digest(), DigestByCalls.of(x));
    }
}
