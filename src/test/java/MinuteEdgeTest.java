/** The edges that chapter 3 and promises 16 and 17 name. */
final class MinuteEdgeTest {
    private static final int SIREN = 1;
    private static final int MAST = 2;
    private static final int RADIO = 4;
    private static final int CALL = 8;
    private static final int NEIGHBOUR = 16;

    public static void main(String[] args) {
        leastAndMostOfMinutes();
        untilEachHour();
        untilTheEnd();
        sirenInEachThirdMinute();
        oneOfSeveralSirens();
        mastTwoMinutesAgoOrEarlier();
        oneOfSeveralMasts();
        eachTongue();
        linesRunOut();
        firstOfAllCalls();
        callsByNumbers();
        calledWhereItIsNow();
        safeHearToo();
        nobodyIsItsOwnNeighbour();
        neighboursThatAreGone();
        neighboursThatMoved();
        eachWayOnce();
        atLeastOneWay();
        waysOfEachTrust();
        goneBelieveNothing();
        roomToTheLast();
        noShelterAtAll();
        tieOfShelters();
        rowsFirst();
        goesByTheGreatestNumber();
        staysInItsShelter();
        harmOfFour();
        safeInTheSameMinute();
        harmInTheNextMinuteOut();
        Check.end("MinuteEdgeTest");
    }

    private static void leastAndMostOfMinutes() {
        WarnWave x = new WarnWave();
        x.pass(1);
        Check.due("16: one minute", x.many(0), 1);
        x.pass(60);
        Check.due("16: sixty minutes", x.many(0), 61);
        WarnWave y = Check.inTheLastHour();
        Check.dueThrows("16: now would be 10000", y, Check.STATE, () -> y.pass(40));
        y.pass(39);
        Check.due("16: now is 9999", y.many(0), 9999);
        Check.dueThrows("16: one more", y, Check.STATE, () -> y.pass(1));
        Check.dueThrows("16: sixty more", y, Check.STATE, () -> y.pass(60));
    }

    private static void untilEachHour() {
        int[] minutes = {0, 1, 59};
        for (int from = 0; from < 24; from++) {
            for (int hour = 0; hour < 24; hour++) {
                int now = 60 * from + minutes[(from + hour) % 3];
                WarnWave x = at(now);
                int then = now + 1;
                while (then % 60 != 0 || then / 60 % 24 != hour) {
                    then++;
                }
                Check.due("17: from " + now + " until " + hour, x.until(hour), then);
                Check.due("17: now is then", x.many(0), then);
            }
        }
    }

    private static WarnWave at(int now) {
        WarnWave x = new WarnWave();
        if (now >= 60) {
            x.until(now / 60);
        }
        if (now % 60 > 0) {
            x.pass(now % 60);
        }
        Check.due("24: now", x.many(0), now);
        return x;
    }

    private static void untilTheEnd() {
        WarnWave x = Check.inTheLastHour();
        Check.due("17: the last hour that begins", x.many(0), 9960);
        for (int hour = 0; hour < 24; hour++) {
            int then = hour;
            Check.dueThrows("17: now would be above 9999, " + hour, x, Check.STATE, () -> x.until(then));
        }
        WarnWave y = new WarnWave();
        for (int day = 0; day < 7; day++) {
            y.until(21);
        }
        y.pass(59);
        Check.dueThrows("17: 23:00 would be 10020", y, Check.STATE, () -> y.until(23));
        Check.due("17: 22:00 is 9960", y.until(22), 9960);
        WarnWave z = new WarnWave();
        z.group(0, 5, 0, false, true);
        z.danger(0, 0);
        z.alert(1, 0, 1);
        Check.due("17: a draft is not in force", z.until(1), 60);
        Check.due("17: nobody is harmed in it", z.ofGroup(0, 6), 0);
        int sent = Check.alertNow(z, 1, 0, 1);
        Check.dueThrows("17: one is in force", z, Check.STATE, () -> z.until(2));
        int update = Check.updateNow(z, sent, 1, 0, 1);
        Check.dueThrows("17: its update is in force", z, Check.STATE, () -> z.until(2));
        Check.cancelNow(z, update);
        Check.due("17: none is in force", z.until(2), 120);
    }

    private static void sirenInEachThirdMinute() {
        for (int minute = 601; minute <= 606; minute++) {
            WarnWave x = Check.byDay();
            x.group(0, 1, 0, false, false);
            x.siren(0, 0);
            if (minute > 601) {
                x.pass(minute - 601);
            }
            Check.alertNow(x, 1, 0, 1);
            x.pass(1);
            Check.due("WAY 0: in minute " + minute, x.heard(0, 0, 3), minute % 3 == 0 ? SIREN : 0);
        }
    }

    private static void oneOfSeveralSirens() {
        WarnWave x = Check.byDay();
        x.group(0, 1, 0, false, false);
        x.siren(0, 3);
        x.siren(15, 3);
        x.siren(3, 2);
        x.siren(12, 3);
        x.power(0, false);
        x.power(12, false);
        Check.alertNow(x, 1, 0, 1);
        x.pass(3);
        Check.due("WAY 0: none with power is near enough", x.heard(0, 0, 3), 0);
        x.power(12, true);
        x.pass(3);
        Check.due("WAY 0: the last of four is", x.heard(0, 0, 3), SIREN);
    }

    /** Asleep, and in reach of a mast that gets its power only so many minutes after the warning was sent. */
    private static void mastTwoMinutesAgoOrEarlier() {
        for (int minutes = 1; minutes <= 5; minutes++) {
            WarnWave x = new WarnWave();
            x.until(23);
            x.lines(0);
            x.group(0, 1, 0, false, false);
            x.mast(0, 0);
            x.power(0, false);
            Check.alertNow(x, 1, 0, 1);
            if (minutes > 1) {
                x.pass(minutes - 1);
            }
            x.power(0, true);
            x.pass(1);
            Check.due("WAY 1: asleep, sent " + minutes + " minutes ago", x.heard(0, 0, 3), minutes >= 2 ? MAST : 0);
        }
    }

    private static void oneOfSeveralMasts() {
        WarnWave x = Check.byDay();
        x.group(0, 1, 0, true, false);
        x.mast(0, 3);
        x.mast(15, 3);
        x.mast(3, 2);
        x.mast(12, 3);
        x.power(0, false);
        x.power(12, false);
        Check.alertNow(x, 1, 0, 1);
        x.pass(3);
        Check.due("WAY 1: none with power is near enough", x.heard(0, 0, 3), 0);
        x.power(12, true);
        x.pass(1);
        Check.due("WAY 1: the last of four is", x.heard(0, 0, 3), MAST);
    }

    private static void eachTongue() {
        for (int tongues = 1; tongues <= 7; tongues++) {
            WarnWave x = new WarnWave();
            x.until(10);
            x.lines(3);
            for (int g = 0; g < 3; g++) {
                x.group(0, 1, g, false, true);
            }
            x.siren(0, 0);
            x.mast(0, 0);
            Check.alertNow(x, 1, 0, tongues);
            x.pass(3);
            for (int g = 0; g < 3; g++) {
                boolean isMeant = (tongues >> g & 1) == 1;
                int want = isMeant ? SIREN + MAST + RADIO + CALL : SIREN;
                Check.due("chapter 3: tongue " + g + " of " + tongues, x.heard(g, 0, 3), want);
            }
        }
    }

    private static void linesRunOut() {
        WarnWave x = new WarnWave();
        x.group(0, 1, 0, true, false);
        x.group(15, 1, 1, false, false);
        Check.alertNow(x, 1, 0, 7);
        Check.alertNow(x, 1 + 32768, 0, 1);
        Check.alertNow(x, 1 + 32768, 0, 2);
        Check.alertNow(x, 1 + 32768, 0, 2);
        x.pass(1);
        Check.due("WAY 3: who calls nobody takes no line", x.heard(1, 2, 3), CALL);
        Check.due("WAY 3: and the only line is taken", x.heard(1, 3, 3), 0);
        x.lines(0);
        x.pass(3);
        Check.due("WAY 3: no line, no call", x.many(10), 1);
        x.lines(1);
        x.pass(1);
        Check.due("WAY 3: called for the next one", x.heard(1, 3, 3), CALL);
        x.pass(5);
        Check.due("WAY 3: all were called", x.many(10), 2);
    }

    private static void firstOfAllCalls() {
        WarnWave x = new WarnWave();
        for (int g = 0; g < 8; g++) {
            x.group(2 * g, 1, 0, false, false);
            x.trust(g, 0);
        }
        Check.alertNow(x, 65535, 0, 1);
        Check.alertNow(x, 65535, 0, 1);
        x.lines(3);
        for (int minute = 1; minute <= 8; minute++) {
            x.pass(1);
            Check.due("WAY 3: one for each warning in a minute", x.many(10), 2 * minute);
            Check.due("WAY 3: by numbers", x.heard(minute - 1, 0, 0), minute);
            Check.due("WAY 3: for both", x.heard(minute - 1, 1, 0), minute);
        }
        x.pass(1);
        Check.due("WAY 3: nobody is left", x.many(10), 16);
    }

    private static void callsByNumbers() {
        WarnWave x = new WarnWave();
        x.group(0, 1, 0, false, false);
        x.alert(1, 0, 1);
        Check.alertNow(x, 1, 0, 1);
        x.approve(0, 0);
        x.approve(0, 1);
        x.send(0);
        x.pass(1);
        Check.due("WAY 3: by numbers, not as they were sent", x.heard(0, 0, 3), CALL);
        Check.due("WAY 3: the line is taken", x.heard(0, 1, 3), 0);
    }

    private static void calledWhereItIsNow() {
        WarnWave x = Check.byDay();
        x.group(0, 1, 0, false, true);
        x.shelter(3, 1);
        Check.alertNow(x, 1, 1, 1);
        x.pass(1);
        Check.due("it left cell 0", x.ofGroup(0, 0), 1);
        x.lines(3);
        Check.alertNow(x, 1, 0, 1);
        x.pass(1);
        Check.due("WAY 3: it is not in the area any more", x.many(10), 0);
        Check.alertNow(x, 4, 0, 1);
        x.pass(1);
        Check.due("WAY 3: it is where it went", x.heard(0, 2, 3), RADIO + CALL);
    }

    private static void safeHearToo() {
        WarnWave x = Check.byDay();
        x.group(0, 1, 0, false, true);
        x.group(0, 1, 0, false, true);
        x.shelter(0, 2);
        Check.alertNow(x, 1, 1, 1);
        x.pass(2);
        Check.due("both are safe", x.many(4), 2);
        x.siren(0, 0);
        x.mast(0, 0);
        x.lines(1);
        x.trust(1, 0);
        Check.alertNow(x, 1, 0, 1);
        x.pass(1);
        Check.due("chapter 3: only who is gone hears nothing", x.heard(0, 1, 3), SIREN + MAST + RADIO);
        Check.due("WAY 3: the first, for the older warning", x.heard(0, 0, 3), SIREN + MAST + RADIO + CALL + NEIGHBOUR);
        x.pass(1);
        Check.due("WAY 4: in the shelter", x.heard(0, 1, 3), SIREN + MAST + RADIO + NEIGHBOUR);
        x.pass(1);
        Check.due("WAY 3: in the shelter", x.heard(0, 1, 3), SIREN + MAST + RADIO + CALL + NEIGHBOUR);
        Check.due("chapter 3: they stay there", x.many(4), 2);
    }

    private static void nobodyIsItsOwnNeighbour() {
        WarnWave x = Check.byDay();
        x.group(5, 1, 0, false, true);
        Check.alertNow(x, 32, 0, 1);
        x.pass(10);
        Check.due("WAY 4: another group", x.heard(0, 0, 3), RADIO);
        x.group(5, 1, 1, false, false);
        x.pass(10);
        Check.due("WAY 4: not with another tongue", x.heard(1, 0, 3), 0);
    }

    private static void neighboursThatAreGone() {
        WarnWave x = Check.byDay();
        x.group(0, 1, 0, false, true);
        x.danger(0, 0);
        Check.alertNow(x, 1, 0, 1);
        x.pass(4);
        x.group(1, 1, 0, false, false);
        x.group(4, 1, 0, false, false);
        x.trust(2, 0);
        x.pass(1);
        Check.due("it is gone by now", x.ofGroup(0, 7), 1);
        Check.due("WAY 4: it told it in its last minute", x.heard(1, 0, 2), 0);
        WarnWave y = Check.byDay();
        y.group(0, 1, 0, false, true);
        y.danger(0, 0);
        Check.alertNow(y, 1, 0, 1);
        y.pass(5);
        y.group(1, 1, 0, false, false);
        y.pass(5);
        Check.due("WAY 4: who is gone tells nothing", y.heard(1, 0, 3), 0);
        Check.due("WAY 4: though it believes it still", y.ofGroup(0, 8), 0);
    }

    private static void neighboursThatMoved() {
        WarnWave x = Check.byDay();
        x.group(0, 1, 0, false, true);
        x.group(6, 1, 0, false, false);
        x.shelter(3, 1);
        Check.alertNow(x, 1, 1, 1);
        x.pass(2);
        Check.due("it is in cell 2", x.ofGroup(0, 0), 2);
        Check.due("WAY 4: beside it only behind this minute", x.heard(1, 0, 3), 0);
        x.pass(1);
        Check.due("WAY 4: beside it ahead of its step", x.heard(1, 0, 3), NEIGHBOUR);
        Check.due("WAY 4: it went on in this minute", x.ofGroup(0, 0), 3);
    }

    private static void eachWayOnce() {
        WarnWave x = Check.byDay();
        x.group(0, 1, 0, false, true);
        x.trust(0, 3);
        x.mast(15, 0);
        Check.alertNow(x, 1, 0, 1);
        Check.due("chapter 3: one way again and again is one", x.pass(60), 0);
        Check.due("chapter 3: first heard", x.heard(0, 0, 0), 601);
        x.mast(0, 0);
        Check.due("chapter 3: a second way", x.pass(1), 1);
        Check.due("chapter 3: both", x.heard(0, 0, 3), MAST + RADIO);
        Check.due("chapter 3: first heard still", x.heard(0, 0, 1), 2);
    }

    private static void atLeastOneWay() {
        for (int trust = 4; trust <= 9; trust++) {
            WarnWave x = Check.byDay();
            x.group(0, 1, 0, false, false);
            x.trust(0, trust);
            Check.alertNow(x, 1, 0, 1);
            Check.due("believing: not without any way, trust " + trust, x.pass(5), 0);
            Check.due("believing: nothing", x.ofGroup(0, 8), -1);
        }
    }

    private static void waysOfEachTrust() {
        int[] needed = {2, 2, 2, 2, 1, 1, 1, 1, 1, 1};
        for (int trust = 0; trust <= 9; trust++) {
            for (int ways = 0; ways <= 4; ways++) {
                WarnWave x = Check.byDay();
                x.pass(2);
                x.group(0, 1, 0, false, ways >= 2);
                x.trust(0, trust);
                x.lines(ways >= 4 ? 1 : 0);
                x.siren(0, ways >= 1 ? 0 : 3);
                x.power(0, ways >= 1);
                x.mast(ways >= 3 ? 0 : 15, 0);
                Check.alertNow(x, 1, 0, 1);
                String what = "believing: " + ways + " ways, trust " + trust;
                Check.due(what, x.pass(1), ways >= needed[trust] ? 1 : 0);
                Check.due(what + ", the ways", Integer.bitCount(x.heard(0, 0, 3)), ways);
            }
        }
    }

    private static void goneBelieveNothing() {
        WarnWave x = Check.byDay();
        x.group(0, 1, 0, false, true);
        x.trust(0, 0);
        x.danger(0, 0);
        Check.alertNow(x, 1, 0, 1);
        x.pass(5);
        Check.due("it is gone", x.ofGroup(0, 7), 1);
        Check.due("it heard it", x.heard(0, 0, 3), RADIO);
        x.trust(0, 9);
        Check.due("believing: not who is gone, whatever its trust", x.pass(5), 0);
        Check.due("believing: nothing", x.heard(0, 0, 4), -1);
    }

    private static void roomToTheLast() {
        for (int room = 98; room <= 100; room++) {
            WarnWave x = Check.byDay();
            x.group(0, 99, 0, false, true);
            x.shelter(0, room);
            Check.alertNow(x, 1, 1, 1);
            x.pass(1);
            Check.due("going: 99 into room of " + room, x.ofGroup(0, 5), room >= 99 ? 0 : -1);
            Check.due("going: what is left of " + room, x.roomIn(0), room >= 99 ? room - 99 : room);
        }
    }

    private static void noShelterAtAll() {
        WarnWave x = Check.byDay();
        x.group(5, 1, 0, false, true);
        Check.alertNow(x, 32, 1, 1);
        Check.due("going: it believes", x.pass(9), 1);
        Check.due("going: nowhere to go", x.ofGroup(0, 0), 5);
        Check.due("going: not safe", x.ofGroup(0, 5), -1);
        Check.due("26: never safe", x.safeIn(0, 60), -1);
    }

    private static void tieOfShelters() {
        for (int first = 0; first < 3; first++) {
            WarnWave x = Check.byDay();
            x.group(5, 2, 0, false, true);
            int[] cells = {9, 6, 1};
            for (int s = 0; s < 3; s++) {
                x.shelter(cells[s], s < first ? 1 : 2);
            }
            Check.alertNow(x, 65535, 1, 1);
            x.pass(2);
            Check.due("going: of several the smallest number", x.ofGroup(0, 5), first);
        }
    }

    private static void rowsFirst() {
        for (int from = 0; from < 16; from++) {
            for (int to = 0; to < 16; to++) {
                WarnWave x = Check.byDay();
                x.group(from, 1, 0, false, true);
                x.shelter(to, 1);
                Check.alertNow(x, 65535, 1, 1);
                dueWay(x, from, to);
            }
        }
    }

    private static void dueWay(WarnWave x, int from, int to) {
        int row = from / 4;
        int column = from % 4;
        for (int step = 0; step <= 6 && x.ofGroup(0, 5) == -1; step++) {
            x.pass(1);
            if (row != to / 4) {
                row += row < to / 4 ? 1 : -1;
            } else if (column != to % 4) {
                column += column < to % 4 ? 1 : -1;
            } else {
                Check.due("going: into " + to + " from " + from, x.ofGroup(0, 5), 0);
            }
            Check.due("going: from " + from + " to " + to, x.ofGroup(0, 0), 4 * row + column);
        }
        Check.due("going: at last in " + to, x.ofGroup(0, 5), 0);
    }

    private static void goesByTheGreatestNumber() {
        WarnWave x = Check.byDay();
        x.group(0, 1, 0, false, true);
        x.shelter(2, 1);
        x.alert(1, 0, 1);
        Check.alertNow(x, 1, 1, 1);
        x.approve(0, 0);
        x.approve(0, 1);
        x.send(0);
        x.pass(1);
        Check.due("going: STAY was sent later, but has the smaller number", x.ofGroup(0, 0), 1);
    }

    private static void staysInItsShelter() {
        WarnWave x = Check.byDay();
        x.group(0, 5, 0, false, true);
        x.shelter(0, 6);
        int sent = Check.alertNow(x, 65535, 1, 1);
        x.pass(1);
        x.shelter(0, 200);
        x.shelter(1, 200);
        int update = Check.updateNow(x, sent, 65535, 1, 1);
        x.pass(5);
        Check.due("going: it stays with GO", x.ofGroup(0, 5), 0);
        Check.updateNow(x, update, 65535, 0, 1);
        x.pass(5);
        Check.due("going: it stays with STAY", x.ofGroup(0, 5), 0);
        Check.due("22: room is taken once", x.roomIn(0), 1);
        Check.due("22: none of the others", x.roomIn(1) + x.roomIn(2), 400);
    }

    private static void harmOfFour() {
        WarnWave x = Check.byDay();
        x.group(0, 5, 0, false, false);
        x.danger(0, 0);
        for (int harm = 1; harm <= 6; harm++) {
            x.pass(1);
            Check.due("danger: harm", x.ofGroup(0, 6), Math.min(5, harm));
            Check.due("danger: gone with 5", x.ofGroup(0, 7), harm >= 5 ? 1 : 0);
            Check.due("24: people gone", x.many(5), harm >= 5 ? 5 : 0);
        }
    }

    private static void safeInTheSameMinute() {
        WarnWave x = Check.byDay();
        x.group(0, 5, 0, false, true);
        x.shelter(0, 5);
        x.danger(0, 0);
        x.pass(4);
        Check.due("danger: a harm of 4", x.ofGroup(0, 6), 4);
        Check.alertNow(x, 1, 1, 1);
        Check.due("26: just in time", x.safeIn(0, 1), 1);
        x.pass(1);
        Check.due("danger: safe ahead of it", x.ofGroup(0, 6), 4);
        x.pass(60);
        Check.due("danger: none in a shelter", x.ofGroup(0, 7), 0);
        WarnWave late = Check.byDay();
        late.group(1, 5, 0, false, true);
        late.shelter(0, 5);
        late.danger(0, 0);
        late.danger(1, 0);
        late.pass(4);
        Check.alertNow(late, 2, 1, 1);
        late.pass(1);
        Check.due("danger: gone on the way, a cell farther", late.ofGroup(0, 7), 1);
        Check.due("danger: where it went", late.ofGroup(0, 0), 0);
        Check.due("26: who is gone comes nowhere", late.safeIn(0, 60), -1);
    }

    private static void harmInTheNextMinuteOut() {
        WarnWave x = Check.byDay();
        x.group(0, 5, 0, false, true);
        x.shelter(0, 5);
        Check.alertNow(x, 1, 1, 1);
        x.pass(1);
        x.danger(0, 0);
        x.pass(3);
        Check.due("danger: none in it", x.ofGroup(0, 6), 0);
        Check.cancelNow(x, 0);
        Check.due("danger: none as it comes out", x.ofGroup(0, 6), 0);
        x.pass(1);
        Check.due("danger: one in the next minute", x.ofGroup(0, 6), 1);
    }
}
