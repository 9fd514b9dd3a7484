/** The edges that chapter 1 and promises 1 to 10 name: the least and the most of each, the first and the last cell. */
final class LandEdgeTest {
    public static void main(String[] args) {
        newLandIsEmpty();
        farOfAllCells();
        besideOfAllCells();
        areaOfEachCell();
        areaOfAllCells();
        hourTurns();
        nightToTheMinute();
        sleepUnlessInForce();
        leastAndMostOfAGroup();
        fullOfGroups();
        trustLeastAndMost();
        leastAndMostOfAShelter();
        sirensAndMastsAreFour();
        powerOfAllInACell();
        linesLeastAndMost();
        dangerNowAndLater();
        dangerAtTheLastMinute();
        eachKey();
        Check.end("LandEdgeTest");
    }

    /** The document's words for FAR, not the program's. */
    private static int far(int from, int to) {
        int rows = from / 4 > to / 4 ? from / 4 - to / 4 : to / 4 - from / 4;
        int columns = from % 4 > to % 4 ? from % 4 - to % 4 : to % 4 - from % 4;
        return rows + columns;
    }

    private static void newLandIsEmpty() {
        WarnWave x = new WarnWave();
        Check.due("1: a minute without people", x.pass(1), 0);
        Check.due("1: a siren adds nobody", x.sirenWould(0, 3, 60), 0);
        Check.due("1: the first alert is nobody's", x.alert(65535, 0, 7), 0);
        x.approve(0, 0);
        x.approve(0, 1);
        Check.due("1: without people it is sent to none", x.send(0), 0);
        Check.due("1: and believed by none", x.pass(60), 0);
        Check.due("1: and nobody is called", x.many(10), 0);
        Check.due("1: by the other calls", x.digest(), DigestByCalls.of(x));
    }

    private static void farOfAllCells() {
        for (int at = 0; at < 16; at++) {
            for (int reach = 0; reach <= 3; reach++) {
                dueReach(at, reach, 0);
                dueReach(at, reach, 8);
            }
        }
    }

    /** In minute 603 everybody within reach of the only siren and the only mast hears both of them. */
    private static void dueReach(int at, int reach, int firstCell) {
        WarnWave x = new WarnWave();
        x.until(10);
        x.pass(2);
        x.lines(0);
        for (int g = 0; g < 8; g++) {
            x.group(firstCell + g, 1, 0, false, false);
        }
        x.siren(at, reach);
        x.mast(at, reach);
        Check.alertNow(x, 65535, 0, 7);
        x.pass(1);
        for (int g = 0; g < 8; g++) {
            int cell = firstCell + g;
            String what = "chapter 1: in " + cell + ", reach " + reach + " from " + at;
            Check.due(what, x.heard(g, 0, 3), far(at, cell) <= reach ? 3 : 0);
        }
    }

    private static void besideOfAllCells() {
        for (int from = 0; from < 16; from++) {
            for (int to = 0; to < 16; to++) {
                WarnWave x = new WarnWave();
                x.until(10);
                x.lines(0);
                x.group(from, 1, 0, false, true);
                x.group(to, 1, 0, false, false);
                Check.alertNow(x, 65535, 0, 7);
                x.pass(2);
                String what = "chapter 1: " + from + " and " + to + " beside each other, or the same";
                Check.due(what, x.heard(1, 0, 3), far(from, to) <= 1 ? 16 : 0);
            }
        }
    }

    private static void areaOfEachCell() {
        for (int cell = 0; cell < 16; cell++) {
            WarnWave x = new WarnWave();
            x.group(cell, 7, 0, false, false);
            x.alert(1 << cell, 0, 7);
            x.alert(65535 - (1 << cell), 0, 7);
            for (int w = 0; w < 2; w++) {
                x.approve(w, 0);
                x.approve(w, 1);
            }
            Check.due("chapter 1: an area of cell " + cell + " alone", x.send(0), 7);
            for (int other = 0; other < 16; other++) {
                Check.due("chapter 1: it has no other cell", x.inForce(other), other == cell ? 0 : -1);
            }
            Check.due("chapter 1: an area of all but " + cell, x.send(1), 0);
            Check.due("chapter 1: and it is not in force there", x.inForce(cell), 0);
        }
    }

    private static void areaOfAllCells() {
        WarnWave x = new WarnWave();
        Check.alertNow(x, 65535, 0, 7);
        for (int cell = 0; cell < 16; cell++) {
            Check.due("chapter 1: 65535 has all cells", x.inForce(cell), 0);
            x.danger(cell, 0);
        }
        Check.due("chapter 1: all cells in danger are 65535", x.many(8), 65535);
    }

    private static void dueHour(WarnWave x, int now, int hour) {
        Check.due("chapter 1: now", x.many(0), now);
        Check.due("chapter 1: the hour at " + now, x.many(1), hour);
    }

    private static void hourTurns() {
        WarnWave x = new WarnWave();
        dueHour(x, 0, 0);
        x.pass(59);
        dueHour(x, 59, 0);
        x.pass(1);
        dueHour(x, 60, 1);
        x.until(23);
        x.pass(59);
        dueHour(x, 1439, 23);
        x.pass(1);
        dueHour(x, 1440, 0);
        for (int day = 0; day < 6; day++) {
            x.until(22);
        }
        x.pass(39);
        dueHour(x, 9999, 22);
    }

    private static void nightToTheMinute() {
        WarnWave x = new WarnWave();
        x.group(0, 5, 0, false, false);
        Check.due("chapter 1: night at 0:00", x.many(9), 1);
        x.until(5);
        x.pass(59);
        Check.due("chapter 1: night at 5:59", x.many(9), 1);
        x.pass(1);
        Check.due("chapter 1: day at 6:00", x.many(9), 0);
        x.until(21);
        x.pass(59);
        Check.due("chapter 1: day at 21:59", x.many(9), 0);
        x.pass(1);
        Check.due("chapter 1: night at 22:00", x.many(9), 1);
        x.until(23);
        x.pass(59);
        Check.due("chapter 1: night at 23:59", x.many(9), 1);
        x.pass(1);
        Check.due("chapter 1: night at 0:00 again", x.ofGroup(0, 4), 1);
    }

    private static void sleepUnlessInForce() {
        WarnWave x = new WarnWave();
        x.group(0, 5, 0, false, false);
        int first = Check.alertNow(x, 1, 0, 1);
        Check.due("chapter 1: what it does not believe lets it sleep", x.ofGroup(0, 4), 1);
        x.pass(1);
        Check.due("chapter 1: it does not sleep", x.many(9), 0);
        int update = Check.updateNow(x, first, 1, 0, 1);
        Check.due("chapter 1: what is updated lets it sleep", x.many(9), 1);
        x.pass(1);
        Check.due("chapter 1: it believes the update", x.many(9), 0);
        x.cancel(update);
        Check.due("chapter 1: the draft of a cancel lets nobody sleep", x.many(9), 0);
        Check.cancelNow(x, update);
        Check.due("chapter 1: what is cancelled lets it sleep", x.ofGroup(0, 4), 1);
    }

    private static void leastAndMostOfAGroup() {
        WarnWave x = new WarnWave();
        Check.due("2: the least of each", x.group(0, 1, 0, false, false), 0);
        Check.due("2: the most of each", x.group(15, 99, 2, true, true), 1);
        Check.due("2: all people", x.many(3), 100);
        Check.due("2: trust at first", x.ofGroup(0, 3), 5);
        Check.due("2: the last cell", x.ofGroup(1, 0), 15);
        Check.due("2: the last tongue", x.ofGroup(1, 2), 2);
    }

    private static void fullOfGroups() {
        WarnWave x = new WarnWave();
        for (int g = 0; g < 8; g++) {
            Check.due("2: groups in one cell", x.group(15, 99, 2, false, false), g);
        }
        Check.due("2: the most people of all", x.many(3), 792);
        Check.due("2: eight sleep", x.many(9), 8);
        x.alert(32768, 0, 4);
        x.approve(0, 0);
        x.approve(0, 1);
        Check.due("15: the most people in an area", x.send(0), 792);
    }

    private static void trustLeastAndMost() {
        WarnWave x = new WarnWave();
        for (int g = 0; g < 8; g++) {
            x.group(0, 1, 0, false, false);
        }
        Check.due("3: of the last group", x.trust(7, 0), 5);
        Check.due("3: the least", x.ofGroup(7, 3), 0);
        Check.due("3: of the first group", x.trust(0, 9), 5);
        Check.due("3: the most", x.ofGroup(0, 3), 9);
        Check.due("3: of no other", x.ofGroup(1, 3), 5);
        Check.due("3: the same again", x.trust(0, 9), 9);
    }

    private static void leastAndMostOfAShelter() {
        WarnWave x = new WarnWave();
        x.until(10);
        Check.due("4: the least room", x.shelter(0, 1), 0);
        Check.due("4: the most room", x.shelter(0, 200), 1);
        Check.due("4: the third, in the same cell", x.shelter(0, 2), 2);
        x.group(0, 1, 0, false, true);
        x.group(0, 99, 0, false, true);
        x.group(0, 99, 0, false, true);
        x.group(0, 2, 0, false, true);
        x.group(0, 3, 0, false, true);
        Check.alertNow(x, 1, 1, 1);
        x.pass(1);
        int[] shelters = {0, 1, 1, 1, -1};
        for (int g = 0; g < 5; g++) {
            Check.due("4: the shelter of group " + g, x.ofGroup(g, 5), shelters[g]);
        }
        Check.due("22: room of one is full", x.roomIn(0), 0);
        Check.due("22: room of 200 is full", x.roomIn(1), 0);
        Check.due("22: no room for 3", x.roomIn(2), 2);
        Check.due("24: people safe", x.many(4), 201);
    }

    private static void sirensAndMastsAreFour() {
        WarnWave x = new WarnWave();
        for (int k = 0; k < 4; k++) {
            Check.due("5: sirens in one cell", x.siren(15, 3), k);
            Check.due("6: masts in one cell", x.mast(15, 0), k);
        }
        Check.dueThrows("5: there were 4", x, Check.STATE, () -> x.siren(0, 3));
        Check.dueThrows("6: there were 4", x, Check.STATE, () -> x.mast(0, 3));
        x.sirenWould(0, 3, 60);
        Check.due("7: a refused one is not there, nor one that was asked for", x.power(0, false), 0);
        Check.due("7: all eight", x.power(15, false), 8);
        Check.dueThrows("5: without power they are there still", x, Check.STATE, () -> x.siren(15, 3));
    }

    private static void powerOfAllInACell() {
        for (int cell = 0; cell < 16; cell++) {
            WarnWave x = new WarnWave();
            x.siren(cell, 0);
            x.mast(cell, 0);
            x.siren(cell == 0 ? 15 : 0, 3);
            Check.due("7: none is changed", x.power(cell, true), 0);
            Check.due("7: only those in " + cell, x.power(cell, false), 2);
            x.siren(cell, 0);
            Check.due("7: only those with power", x.power(cell, false), 1);
            Check.due("7: and back", x.power(cell, true), 3);
        }
    }

    private static void linesLeastAndMost() {
        for (int lines = 0; lines <= 3; lines++) {
            WarnWave x = new WarnWave();
            for (int w = 0; w < 4; w++) {
                Check.alertNow(x, 65535, 0, 7);
            }
            x.group(0, 1, 0, false, false);
            Check.due("8: one at first", x.lines(lines), 1);
            Check.due("8: the same again", x.lines(lines), lines);
            x.pass(1);
            Check.due("8: calls in a minute by " + lines, x.many(10), lines);
            x.pass(1);
            Check.due("8: calls in two by " + lines, x.many(10), Math.min(4, 2 * lines));
        }
    }

    private static void dangerNowAndLater() {
        WarnWave x = new WarnWave();
        Check.due("9: never before", x.danger(0, 0), -1);
        Check.due("9: from now on, by now", x.many(8), 1);
        Check.due("9: now is 0", x.danger(0, 1), 0);
        Check.due("9: in 1 minute, not by now", x.many(8), 0);
        x.pass(1);
        Check.due("9: by then", x.many(8), 1);
        Check.due("9: in 999 minutes", x.danger(0, 999), 1);
        x.until(16);
        x.pass(39);
        Check.due("9: one minute ahead", x.many(8), 0);
        x.pass(1);
        Check.due("9: 999 minutes later", x.many(8), 1);
        Check.due("9: the minute", x.danger(0, -1), 1000);
        Check.due("9: never any more", x.many(8), 0);
        Check.due("9: never before", x.danger(15, 0), -1);
        Check.due("9: the last cell", x.many(8), 32768);
    }

    private static void dangerAtTheLastMinute() {
        WarnWave x = Check.inTheLastHour();
        x.pass(39);
        x.danger(0, 999);
        Check.due("9: above 9999", x.danger(0, 0), 10998);
        Check.due("9: at 9999", x.danger(0, -1), 9999);
    }

    private static void eachKey() {
        WarnWave x = new WarnWave();
        for (int officer = 0; officer < 4; officer++) {
            Check.due("10: at first, of " + officer, x.key(officer, true), officer < 2);
        }
        Check.due("10: all four", x.many(11), 15);
        for (int officer = 0; officer < 4; officer++) {
            Check.due("10: taken from " + officer, x.key(officer, false), true);
            Check.due("10: twice from " + officer, x.key(officer, false), false);
        }
        Check.due("10: none", x.many(11), 0);
    }
}
