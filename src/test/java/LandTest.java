/** Promises 1 to 10: what is told. */
final class LandTest {
    public static void main(String[] args) {
        newObject();
        group();
        groupWrong();
        trust();
        shelter();
        siren();
        mast();
        power();
        lines();
        danger();
        key();
        Check.end("LandTest");
    }

    private static void newObject() {
        WarnWave x = new WarnWave();
        for (int what = 0; what <= 10; what++) {
            Check.due("1: new many(" + what + ")", x.many(what), 0);
        }
        Check.due("1: new many(11)", x.many(11), 3);
        Check.due("1: new digest()", x.digest(), 5877655695940251471L);
        for (int cell = 0; cell < 16; cell++) {
            Check.due("1: new inForce", x.inForce(cell), -1);
            Check.due("1: new danger", x.danger(cell, -1), -1);
            Check.due("1: new power", x.power(cell, false), 0);
        }
        Check.due("1: new lines", x.lines(1), 1);
        Check.due("1: officer 0 has a key", x.key(0, true), true);
        Check.due("1: officer 1 has a key", x.key(1, true), true);
        Check.due("1: officer 2 has none", x.key(2, false), false);
        Check.due("1: officer 3 has none", x.key(3, false), false);
        x.group(3, 7, 1, false, true);
        Check.due("1: another object is empty", new WarnWave().many(2), 0);
    }

    private static void group() {
        WarnWave x = new WarnWave();
        Check.due("2: first group", x.group(0, 1, 0, false, false), 0);
        Check.due("2: second group", x.group(15, 99, 2, true, true), 1);
        int[][] want = {{0, 1, 0, 5, 1, -1, 0, 0, -1}, {15, 99, 2, 5, 1, -1, 0, 0, -1}};
        for (int g = 0; g < 2; g++) {
            for (int what = 0; what <= 8; what++) {
                Check.due("2: ofGroup(" + g + ", " + what + ")", x.ofGroup(g, what), want[g][what]);
            }
        }
        for (int g = 2; g < 8; g++) {
            Check.due("2: next group", x.group(5, 10, 1, false, true), g);
        }
        Check.due("2: eight groups", x.many(2), 8);
    }

    private static void groupWrong() {
        WarnWave x = new WarnWave();
        Check.dueThrows("2: cell -1", x, Check.INDEX, () -> x.group(-1, 5, 0, false, false));
        Check.dueThrows("2: cell 16", x, Check.INDEX, () -> x.group(16, 5, 0, false, false));
        Check.dueThrows("2: cell first", x, Check.INDEX, () -> x.group(16, 0, 3, false, false));
        Check.dueThrows("2: people 0", x, Check.ARGUMENT, () -> x.group(0, 0, 0, false, false));
        Check.dueThrows("2: people 100", x, Check.ARGUMENT, () -> x.group(0, 100, 0, false, false));
        Check.dueThrows("2: tongue -1", x, Check.ARGUMENT, () -> x.group(0, 5, -1, false, false));
        Check.dueThrows("2: tongue 3", x, Check.ARGUMENT, () -> x.group(0, 5, 3, false, false));
        for (int g = 0; g < 8; g++) {
            x.group(g, 5, 0, false, false);
        }
        Check.dueThrows("2: ninth", x, Check.STATE, () -> x.group(0, 5, 0, false, false));
        Check.dueThrows("2: ninth, cell first", x, Check.INDEX, () -> x.group(16, 5, 0, false, false));
        Check.dueThrows("2: ninth, people first", x, Check.ARGUMENT, () -> x.group(0, 100, 0, false, false));
    }

    private static void trust() {
        WarnWave x = new WarnWave();
        x.group(0, 5, 0, false, false);
        Check.due("3: trust before", x.trust(0, 0), 5);
        Check.due("3: trust before", x.trust(0, 9), 0);
        Check.due("3: trust told", x.ofGroup(0, 3), 9);
        Check.dueThrows("3: group -1", x, Check.INDEX, () -> x.trust(-1, 5));
        Check.dueThrows("3: group 1", x, Check.INDEX, () -> x.trust(1, 5));
        Check.dueThrows("3: group first", x, Check.INDEX, () -> x.trust(1, 10));
        Check.dueThrows("3: trust -1", x, Check.ARGUMENT, () -> x.trust(0, -1));
        Check.dueThrows("3: trust 10", x, Check.ARGUMENT, () -> x.trust(0, 10));
    }

    private static void shelter() {
        WarnWave x = new WarnWave();
        Check.dueThrows("4: cell -1", x, Check.INDEX, () -> x.shelter(-1, 5));
        Check.dueThrows("4: cell 16", x, Check.INDEX, () -> x.shelter(16, 0));
        Check.dueThrows("4: room 0", x, Check.ARGUMENT, () -> x.shelter(0, 0));
        Check.dueThrows("4: room 201", x, Check.ARGUMENT, () -> x.shelter(0, 201));
        Check.due("4: first", x.shelter(15, 200), 0);
        Check.due("4: second", x.shelter(0, 1), 1);
        Check.due("4: third", x.shelter(0, 77), 2);
        Check.due("4: room of 0", x.roomIn(0), 200);
        Check.due("4: room of 1", x.roomIn(1), 1);
        Check.due("4: room of 2", x.roomIn(2), 77);
        Check.dueThrows("4: fourth", x, Check.STATE, () -> x.shelter(0, 5));
        Check.dueThrows("4: fourth, cell first", x, Check.INDEX, () -> x.shelter(16, 5));
        Check.dueThrows("4: fourth, room first", x, Check.ARGUMENT, () -> x.shelter(0, 0));
    }

    private static void siren() {
        WarnWave x = new WarnWave();
        Check.dueThrows("5: cell -1", x, Check.INDEX, () -> x.siren(-1, 0));
        Check.dueThrows("5: cell 16", x, Check.INDEX, () -> x.siren(16, 4));
        Check.dueThrows("5: reach -1", x, Check.ARGUMENT, () -> x.siren(0, -1));
        Check.dueThrows("5: reach 4", x, Check.ARGUMENT, () -> x.siren(0, 4));
        for (int s = 0; s < 4; s++) {
            Check.due("5: number", x.siren(s * 5, s), s);
        }
        Check.dueThrows("5: fifth", x, Check.STATE, () -> x.siren(0, 0));
        Check.dueThrows("5: fifth, cell first", x, Check.INDEX, () -> x.siren(16, 0));
        Check.dueThrows("5: fifth, reach first", x, Check.ARGUMENT, () -> x.siren(0, 4));
        Check.due("5: masts are counted by themselves", x.mast(0, 0), 0);
    }

    private static void mast() {
        WarnWave x = new WarnWave();
        Check.dueThrows("6: cell -1", x, Check.INDEX, () -> x.mast(-1, 0));
        Check.dueThrows("6: cell 16", x, Check.INDEX, () -> x.mast(16, -1));
        Check.dueThrows("6: reach -1", x, Check.ARGUMENT, () -> x.mast(0, -1));
        Check.dueThrows("6: reach 4", x, Check.ARGUMENT, () -> x.mast(0, 4));
        for (int m = 0; m < 4; m++) {
            Check.due("6: number", x.mast(m * 5, m), m);
        }
        Check.dueThrows("6: fifth", x, Check.STATE, () -> x.mast(0, 0));
        Check.dueThrows("6: fifth, cell first", x, Check.INDEX, () -> x.mast(16, 0));
        Check.dueThrows("6: fifth, reach first", x, Check.ARGUMENT, () -> x.mast(0, 4));
        Check.due("6: sirens are counted by themselves", x.siren(0, 0), 0);
    }

    private static void power() {
        WarnWave x = new WarnWave();
        x.siren(6, 1);
        x.siren(6, 2);
        x.siren(7, 3);
        x.mast(6, 3);
        Check.due("7: they have power at first", x.power(6, true), 0);
        Check.due("7: all in the cell are cut", x.power(6, false), 3);
        Check.due("7: none is left to cut", x.power(6, false), 0);
        x.mast(6, 0);
        Check.due("7: a new one has power", x.power(6, false), 1);
        Check.due("7: all come back", x.power(6, true), 4);
        Check.due("7: the other cell", x.power(7, false), 1);
        Check.due("7: an empty cell", x.power(0, false), 0);
        Check.dueThrows("7: cell -1", x, Check.INDEX, () -> x.power(-1, true));
        Check.dueThrows("7: cell 16", x, Check.INDEX, () -> x.power(16, true));
    }

    private static void lines() {
        WarnWave x = new WarnWave();
        Check.due("8: one at first", x.lines(3), 1);
        Check.due("8: before", x.lines(0), 3);
        Check.due("8: before", x.lines(2), 0);
        Check.dueThrows("8: lines -1", x, Check.ARGUMENT, () -> x.lines(-1));
        Check.dueThrows("8: lines 4", x, Check.ARGUMENT, () -> x.lines(4));
        Check.due("8: wrong ones change nothing", x.lines(1), 2);
    }

    private static void danger() {
        WarnWave x = new WarnWave();
        x.pass(10);
        Check.due("9: never before", x.danger(3, 0), -1);
        Check.due("9: from now", x.danger(3, 999), 10);
        Check.due("9: from later on", x.danger(3, 5), 1009);
        Check.due("9: not yet", x.many(8), 0);
        x.danger(0, 4);
        x.pass(4);
        Check.due("9: one by now", x.many(8), 1);
        x.pass(1);
        Check.due("9: both by now", x.many(8), 9);
        Check.due("9: never again", x.danger(0, -1), 14);
        Check.due("9: one is left", x.many(8), 8);
        Check.due("9: NONE before", x.danger(0, -1), -1);
        Check.dueThrows("9: cell -1", x, Check.INDEX, () -> x.danger(-1, 0));
        Check.dueThrows("9: cell 16", x, Check.INDEX, () -> x.danger(16, -2));
        Check.dueThrows("9: later -2", x, Check.ARGUMENT, () -> x.danger(0, -2));
        Check.dueThrows("9: later 1000", x, Check.ARGUMENT, () -> x.danger(0, 1000));
    }

    private static void key() {
        WarnWave x = new WarnWave();
        Check.due("10: had one", x.key(0, false), true);
        Check.due("10: had none", x.key(0, false), false);
        Check.due("10: had none", x.key(3, true), false);
        Check.due("10: had one", x.key(3, true), true);
        Check.due("10: the set", x.many(11), 10);
        Check.dueThrows("10: officer -1", x, Check.INDEX, () -> x.key(-1, true));
        Check.dueThrows("10: officer 4", x, Check.INDEX, () -> x.key(4, true));
    }
}
