/** Promises 11 to 15: warnings are drafted, approved and sent; and what a cancel does. */
final class WarningTest {
    public static void main(String[] args) {
        alert();
        update();
        cancel();
        limit();
        approve();
        send();
        onlyOneFollows();
        keysCountWhenSent();
        trustAfterCancel();
        trustEdges();
        outOfShelters();
        eightGroups();
        Check.end("WarningTest");
    }

    private static void dueWarning(String what, WarnWave x, int warning, int... want) {
        for (int k = 0; k < want.length; k++) {
            Check.due(what + " ofWarning(" + warning + ", " + k + ")", x.ofWarning(warning, k), want[k]);
        }
    }

    private static void alert() {
        WarnWave x = new WarnWave();
        Check.due("11: first", x.alert(1, 0, 1), 0);
        Check.due("11: second", x.alert(65535, 1, 7), 1);
        dueWarning("11:", x, 0, 0, -1, 1, 0, 1, 0, -1, 0, 0);
        dueWarning("11:", x, 1, 0, -1, 65535, 1, 7, 0, -1, 0, 0);
        Check.dueThrows("11: area 0", x, Check.ARGUMENT, () -> x.alert(0, 0, 1));
        Check.dueThrows("11: area -1", x, Check.ARGUMENT, () -> x.alert(-1, 0, 1));
        Check.dueThrows("11: area 65536", x, Check.ARGUMENT, () -> x.alert(65536, 0, 1));
        Check.dueThrows("11: advice -1", x, Check.ARGUMENT, () -> x.alert(1, -1, 1));
        Check.dueThrows("11: advice 2", x, Check.ARGUMENT, () -> x.alert(1, 2, 1));
        Check.dueThrows("11: tongues 0", x, Check.ARGUMENT, () -> x.alert(1, 0, 0));
        Check.dueThrows("11: tongues 8", x, Check.ARGUMENT, () -> x.alert(1, 0, 8));
    }

    private static void update() {
        WarnWave x = new WarnWave();
        int draft = x.alert(6, 1, 3);
        Check.dueThrows("12: of a draft", x, Check.STATE, () -> x.update(draft, 1, 0, 1));
        Check.dueThrows("12: no such", x, Check.INDEX, () -> x.update(1, 1, 0, 1));
        Check.dueThrows("12: -1", x, Check.INDEX, () -> x.update(-1, 0, 0, 1));
        Check.dueThrows("12: area first", x, Check.ARGUMENT, () -> x.update(draft, 0, 0, 1));
        int sent = Check.alertNow(x, 6, 1, 3);
        Check.dueThrows("12: area 65536", x, Check.ARGUMENT, () -> x.update(sent, 65536, 0, 1));
        Check.dueThrows("12: advice 2", x, Check.ARGUMENT, () -> x.update(sent, 1, 2, 1));
        Check.dueThrows("12: tongues 0", x, Check.ARGUMENT, () -> x.update(sent, 1, 0, 0));
        Check.dueThrows("12: tongues 8", x, Check.ARGUMENT, () -> x.update(sent, 1, 0, 8));
        Check.due("12: number", x.update(sent, 9, 0, 4), 2);
        dueWarning("12:", x, 2, 1, 1, 9, 0, 4, 0, -1, 0, 0);
        Check.due("12: the other one stays in force", x.ofWarning(sent, 7), 1);
        int second = Check.updateNow(x, sent, 9, 0, 4);
        Check.due("12: the other one is out of force", x.ofWarning(sent, 7), 0);
        Check.due("12: it is in force", x.ofWarning(second, 7), 1);
        Check.dueThrows("12: of one updated", x, Check.STATE, () -> x.update(sent, 1, 0, 1));
        Check.due("12: of an update", x.update(second, 1, 1, 1), 4);
        int cancel = Check.cancelNow(x, second);
        Check.dueThrows("12: of a cancel", x, Check.STATE, () -> x.update(cancel, 1, 0, 1));
        Check.dueThrows("12: of one cancelled", x, Check.STATE, () -> x.update(second, 1, 0, 1));
    }

    private static void cancel() {
        WarnWave x = new WarnWave();
        int draft = x.alert(6, 1, 3);
        Check.dueThrows("13: of a draft", x, Check.STATE, () -> x.cancel(draft));
        Check.dueThrows("13: no such", x, Check.INDEX, () -> x.cancel(1));
        Check.dueThrows("13: -1", x, Check.INDEX, () -> x.cancel(-1));
        int sent = Check.alertNow(x, 600, 1, 5);
        Check.due("13: number", x.cancel(sent), 2);
        dueWarning("13:", x, 2, 2, 1, 600, 1, 5, 0, -1, 0, 0);
        x.pass(5);
        int cancel = Check.cancelNow(x, sent);
        dueWarning("13: sent", x, cancel, 2, 1, 600, 1, 5, 3, 5, 0, 0);
        Check.due("13: the other one is out of force", x.ofWarning(sent, 7), 0);
        Check.dueThrows("13: of a cancel", x, Check.STATE, () -> x.cancel(cancel));
        Check.dueThrows("13: of one cancelled", x, Check.STATE, () -> x.cancel(sent));
    }

    private static void limit() {
        WarnWave x = new WarnWave();
        int sent = Check.alertNow(x, 1, 0, 1);
        for (int w = 1; w < 12; w++) {
            Check.due("11: number", x.alert(w, 0, 1), w);
        }
        Check.dueThrows("11: thirteenth", x, Check.STATE, () -> x.alert(1, 0, 1));
        Check.dueThrows("11: thirteenth, area first", x, Check.ARGUMENT, () -> x.alert(0, 0, 1));
        Check.dueThrows("12: thirteenth", x, Check.STATE, () -> x.update(sent, 1, 0, 1));
        Check.dueThrows("12: thirteenth, area first", x, Check.ARGUMENT, () -> x.update(sent, 0, 0, 1));
        Check.dueThrows("13: thirteenth", x, Check.STATE, () -> x.cancel(sent));
        Check.due("many(6)", x.many(6), 12);
    }

    private static void approve() {
        WarnWave x = new WarnWave();
        Check.dueThrows("14: none yet", x, Check.INDEX, () -> x.approve(0, 0));
        x.alert(1, 0, 1);
        Check.dueThrows("14: warning 1", x, Check.INDEX, () -> x.approve(1, 0));
        Check.dueThrows("14: warning -1", x, Check.INDEX, () -> x.approve(-1, 0));
        Check.dueThrows("14: officer -1", x, Check.INDEX, () -> x.approve(0, -1));
        Check.dueThrows("14: officer 4", x, Check.INDEX, () -> x.approve(0, 4));
        Check.due("14: without a key", x.approve(0, 3), 2);
        Check.due("14: with a key", x.approve(0, 1), 1);
        Check.dueThrows("14: again", x, Check.STATE, () -> x.approve(0, 1));
        Check.dueThrows("14: again, without a key", x, Check.STATE, () -> x.approve(0, 3));
        Check.due("14: second with a key", x.approve(0, 0), 0);
        x.key(3, true);
        x.key(2, true);
        Check.due("14: more than needed", x.approve(0, 2), 0);
        Check.due("14: the set", x.ofWarning(0, 5), 15);
        x.alert(1, 0, 1);
        x.approve(1, 0);
        x.approve(1, 1);
        x.send(1);
        Check.dueThrows("14: one sent", x, Check.STATE, () -> x.approve(1, 2));
        Check.dueThrows("14: one sent, officer first", x, Check.INDEX, () -> x.approve(1, 4));
    }

    private static void send() {
        WarnWave x = new WarnWave();
        x.group(0, 10, 0, false, false);
        x.group(1, 20, 1, true, false);
        x.group(15, 40, 2, false, false);
        x.alert(32769, 0, 1);
        Check.dueThrows("15: not approved", x, Check.STATE, () -> x.send(0));
        Check.dueThrows("15: no such", x, Check.INDEX, () -> x.send(1));
        Check.dueThrows("15: -1", x, Check.INDEX, () -> x.send(-1));
        x.approve(0, 0);
        Check.dueThrows("15: one is lacking", x, Check.STATE, () -> x.send(0));
        x.approve(0, 1);
        x.pass(7);
        Check.due("15: people in the area", x.send(0), 50);
        Check.due("15: sent at", x.ofWarning(0, 6), 7);
        Check.due("15: in force", x.ofWarning(0, 7), 1);
        Check.dueThrows("15: twice", x, Check.STATE, () -> x.send(0));
        x.danger(15, 0);
        x.pass(5);
        Check.due("15: the group is gone", x.ofGroup(2, 7), 1);
        x.cancel(0);
        x.approve(1, 0);
        x.approve(1, 1);
        Check.due("15: those that are gone do not count", x.send(1), 10);
    }

    private static void onlyOneFollows() {
        WarnWave x = new WarnWave();
        int sent = Check.alertNow(x, 1, 0, 1);
        int update = x.update(sent, 2, 0, 1);
        int cancel = x.cancel(sent);
        x.approve(update, 0);
        x.approve(cancel, 0);
        x.approve(cancel, 1);
        x.send(cancel);
        Check.due("15: a draft behind a cancel can be approved still", x.approve(update, 1), 0);
        Check.dueThrows("15: but not sent", x, Check.STATE, () -> x.send(update));
        Check.due("15: it is not in force", x.ofWarning(update, 7), 0);
    }

    private static void keysCountWhenSent() {
        WarnWave x = new WarnWave();
        x.alert(1, 0, 1);
        x.approve(0, 0);
        x.approve(0, 1);
        x.key(1, false);
        Check.dueThrows("15: a key was taken", x, Check.STATE, () -> x.send(0));
        x.key(2, true);
        Check.dueThrows("15: the new key has not approved", x, Check.STATE, () -> x.send(0));
        Check.due("14: the new key is enough", x.approve(0, 2), 0);
        x.key(0, false);
        x.key(1, true);
        Check.due("15: two of three", x.send(0), 0);
    }

    /** Groups 0 and 1 believe the alert of cells 0 and 1, group 2 stands outside of it and does not. */
    private static WarnWave believers() {
        WarnWave x = new WarnWave();
        x.until(10);
        x.group(0, 5, 0, false, true);
        x.group(1, 5, 1, false, true);
        x.group(15, 5, 2, false, true);
        Check.alertNow(x, 3, 0, 7);
        Check.due("the two believe", x.pass(1), 2);
        return x;
    }

    private static void dueTrust(String what, WarnWave x, int first, int second, int third) {
        Check.due(what + ", group 0", x.ofGroup(0, 3), first);
        Check.due(what + ", group 1", x.ofGroup(1, 3), second);
        Check.due(what + ", group 2", x.ofGroup(2, 3), third);
    }

    private static void trustAfterCancel() {
        WarnWave right = believers();
        right.danger(1, 0);
        Check.cancelNow(right, 0);
        dueTrust("chapter 4: a cell of the area was in danger", right, 6, 6, 5);

        WarnWave idle = believers();
        idle.danger(0, 1);
        Check.cancelNow(idle, 0);
        dueTrust("chapter 4: danger is not there yet", idle, 3, 3, 5);

        WarnWave outside = believers();
        outside.danger(15, 0);
        Check.cancelNow(outside, 0);
        dueTrust("chapter 4: danger elsewhere", outside, 3, 3, 5);

        WarnWave moved = new WarnWave();
        moved.until(10);
        moved.group(0, 5, 0, false, true);
        moved.group(0, 5, 0, false, true);
        moved.group(0, 5, 0, false, true);
        moved.trust(2, 0);
        moved.shelter(4, 5);
        Check.alertNow(moved, 1, 1, 1);
        moved.pass(1);
        moved.danger(4, 0);
        Check.cancelNow(moved, 0);
        dueTrust("chapter 4: their own cell is in danger", moved, 5, 5, 0);

        WarnWave updated = believers();
        updated.danger(1, 0);
        Check.updateNow(updated, 0, 32768, 0, 7);
        dueTrust("chapter 4: an update is no cancel", updated, 5, 5, 5);
        Check.cancelNow(updated, 1);
        dueTrust("chapter 4: nobody believed the update", updated, 5, 5, 5);
    }

    private static void trustEdges() {
        WarnWave most = believers();
        most.trust(0, 9);
        most.trust(1, 8);
        most.danger(0, 0);
        Check.cancelNow(most, 0);
        dueTrust("chapter 4: 9 at most", most, 9, 9, 5);

        WarnWave least = believers();
        least.trust(0, 1);
        least.trust(1, 2);
        Check.cancelNow(least, 0);
        dueTrust("chapter 4: 0 at least", least, 0, 0, 5);

        WarnWave gone = believers();
        gone.danger(0, 0);
        gone.pass(5);
        Check.due("group 0 is gone", gone.ofGroup(0, 7), 1);
        Check.cancelNow(gone, 0);
        dueTrust("chapter 4: the gone keep theirs", gone, 5, 6, 5);
    }

    private static void outOfShelters() {
        WarnWave x = new WarnWave();
        x.until(10);
        x.group(0, 5, 0, false, true);
        x.group(0, 7, 1, false, true);
        x.shelter(0, 20);
        int forBoth = Check.alertNow(x, 1, 1, 3);
        x.pass(1);
        Check.due("both are safe", x.many(4), 12);
        Check.due("room is less", x.roomIn(0), 8);
        int forOne = Check.alertNow(x, 1, 0, 2);
        x.pass(1);
        Check.cancelNow(x, forBoth);
        Check.due("chapter 4: group 0 comes out", x.ofGroup(0, 5), -1);
        Check.due("chapter 4: group 1 believes another", x.ofGroup(1, 5), 0);
        Check.due("chapter 4: room of group 0 is free", x.roomIn(0), 13);
        x.pass(1);
        Check.due("chapter 4: group 1 stays there", x.ofGroup(1, 5), 0);
        Check.cancelNow(x, forOne);
        Check.due("chapter 4: group 1 comes out", x.ofGroup(1, 5), -1);
        Check.due("chapter 4: all room is free", x.roomIn(0), 20);
        Check.due("chapter 4: it stays in its cell", x.ofGroup(1, 0), 0);

        WarnWave y = new WarnWave();
        y.until(10);
        y.group(0, 5, 0, false, true);
        y.shelter(0, 20);
        Check.alertNow(y, 1, 1, 1);
        y.pass(1);
        Check.updateNow(y, 0, 65535, 1, 2);
        Check.due("chapter 4: an update lets nobody out", y.ofGroup(0, 5), 0);
        int elsewhere = Check.alertNow(y, 32768, 0, 4);
        Check.cancelNow(y, elsewhere);
        Check.due("chapter 4: any cancel lets out who believes none", y.ofGroup(0, 5), -1);
        Check.due("chapter 4: trust is as it was", y.ofGroup(0, 3), 5);
    }

    private static void eightGroups() {
        WarnWave x = new WarnWave();
        x.until(10);
        x.shelter(5, 4);
        x.shelter(5, 1);
        x.shelter(5, 2);
        for (int g = 0; g < 8; g++) {
            x.group(5, 1, g % 3, false, true);
        }
        Check.alertNow(x, 32, 1, 7);
        Check.due("all believe", x.pass(1), 8);
        Check.due("seven are safe", x.many(4), 7);
        Check.cancelNow(x, 0);
        Check.due("chapter 4: all come out", x.many(4), 0);
        for (int g = 0; g < 8; g++) {
            Check.due("chapter 4: group " + g + " trusts less", x.ofGroup(g, 3), 3);
        }
        Check.due("chapter 4: all room is free", x.roomIn(0) * 100 + x.roomIn(1) * 10 + x.roomIn(2), 412);
    }
}
