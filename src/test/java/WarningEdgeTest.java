/** The edges that chapters 2 and 4 and promises 11 to 15 name. */
final class WarningEdgeTest {
    public static void main(String[] args) {
        leastAndMostOfWords();
        twelveEver();
        approvalsAndKeys();
        keyGivenAfterwards();
        sentOnce();
        onlyOneOfTheSame();
        draftsOfTheSame();
        inForceOnlyWithoutFollower();
        cancelKeepsWords();
        peopleInTheArea();
        trustOfEach();
        dangerByThen();
        ownCellInDanger();
        onlyTheOtherOneCounts();
        goneKeepTheirTrust();
        roomIsAsMuchMore();
        whoBelievesStillStays();
        Check.end("WarningEdgeTest");
    }

    private static void leastAndMostOfWords() {
        WarnWave x = new WarnWave();
        Check.due("11: the least of each", x.alert(1, 0, 1), 0);
        Check.due("11: the most of each", x.alert(65535, 1, 7), 1);
        int sent = Check.alertNow(x, 1, 0, 1);
        Check.due("12: the least of each", x.update(sent, 1, 0, 1), 3);
        Check.due("12: the most of each", x.update(sent, 65535, 1, 7), 4);
        int[][] want = {{1, 0, 1}, {65535, 1, 7}, {1, 0, 1}, {1, 0, 1}, {65535, 1, 7}};
        for (int w = 0; w < 5; w++) {
            for (int k = 0; k < 3; k++) {
                Check.due("20: words of " + w, x.ofWarning(w, 2 + k), want[w][k]);
            }
        }
    }

    private static void twelveEver() {
        WarnWave x = new WarnWave();
        for (int pair = 0; pair < 5; pair++) {
            Check.cancelNow(x, Check.alertNow(x, 1, 0, 1));
        }
        Check.due("chapter 2: none is in force", x.many(7), 0);
        int sent = Check.alertNow(x, 1, 0, 1);
        Check.due("chapter 2: the twelfth", x.cancel(sent), 11);
        Check.dueThrows("11: 12 ever, though most were cancelled", x, Check.STATE, () -> x.alert(1, 0, 1));
        Check.dueThrows("12: 12 ever", x, Check.STATE, () -> x.update(sent, 1, 0, 1));
        Check.dueThrows("13: 12 ever", x, Check.STATE, () -> x.cancel(sent));
        x.approve(11, 0);
        x.approve(11, 1);
        Check.due("chapter 2: the twelfth is sent", x.send(11), 0);
        Check.due("chapter 2: none is in force any more", x.many(7), 0);
        Check.dueThrows("11: still 12", x, Check.STATE, () -> x.alert(1, 0, 1));
    }

    /** All sets of officers that approved it, and all sets of those with a key now. */
    private static void approvalsAndKeys() {
        for (int approvals = 0; approvals < 16; approvals++) {
            for (int keys = 0; keys < 16; keys++) {
                WarnWave x = new WarnWave();
                x.alert(1, 0, 1);
                tellKeys(x, keys);
                int last = approveAll(x, approvals);
                int both = Integer.bitCount(approvals & keys);
                String what = "chapter 2: approved by " + approvals + ", keys " + keys;
                Check.due("14: " + what, last, both >= 2 ? 0 : 2 - both);
                Check.due("14: the set " + what, x.ofWarning(0, 5), approvals);
                if (both >= 2) {
                    Check.due("15: " + what, x.send(0), 0);
                } else {
                    Check.dueThrows("15: " + what, x, Check.STATE, () -> x.send(0));
                }
            }
        }
    }

    private static void tellKeys(WarnWave x, int keys) {
        for (int officer = 0; officer < 4; officer++) {
            x.key(officer, (keys >> officer & 1) == 1);
        }
    }

    private static int approveAll(WarnWave x, int approvals) {
        int last = 2;
        for (int officer = 0; officer < 4; officer++) {
            if ((approvals >> officer & 1) == 1) {
                last = x.approve(0, officer);
            }
        }
        return last;
    }

    private static void keyGivenAfterwards() {
        WarnWave x = new WarnWave();
        x.alert(1, 0, 1);
        Check.due("14: without a key", x.approve(0, 3), 2);
        Check.due("14: the second without a key", x.approve(0, 2), 2);
        Check.dueThrows("15: no key", x, Check.STATE, () -> x.send(0));
        x.key(3, true);
        Check.dueThrows("15: one key", x, Check.STATE, () -> x.send(0));
        x.key(2, true);
        Check.due("15: two who have a key now", x.send(0), 0);
        x.key(2, false);
        x.key(3, false);
        Check.due("15: what was sent stays so", x.ofWarning(0, 7), 1);
    }

    private static void sentOnce() {
        WarnWave x = new WarnWave();
        int sent = Check.alertNow(x, 1, 0, 1);
        Check.due("20: sent in minute 0", x.ofWarning(sent, 6), 0);
        x.pass(1);
        Check.dueThrows("15: an alert twice", x, Check.STATE, () -> x.send(sent));
        int update = Check.updateNow(x, sent, 2, 0, 1);
        Check.dueThrows("15: an update twice", x, Check.STATE, () -> x.send(update));
        int cancel = Check.cancelNow(x, update);
        Check.dueThrows("15: a cancel twice", x, Check.STATE, () -> x.send(cancel));
        Check.dueThrows("15: one cancelled", x, Check.STATE, () -> x.send(update));
        Check.due("20: it was sent in minute 0 still", x.ofWarning(sent, 6), 0);
    }

    private static int follow(WarnWave x, int warning, boolean isUpdate) {
        return isUpdate ? x.update(warning, 2, 1, 2) : x.cancel(warning);
    }

    private static void onlyOneOfTheSame() {
        for (int kinds = 0; kinds < 4; kinds++) {
            boolean isFirstUpdate = kinds % 2 == 0;
            boolean isSecondUpdate = kinds / 2 == 0;
            WarnWave x = new WarnWave();
            int sent = Check.alertNow(x, 1, 0, 1);
            int first = follow(x, sent, isFirstUpdate);
            int second = follow(x, sent, isSecondUpdate);
            for (int w = first; w <= second; w++) {
                x.approve(w, 0);
                x.approve(w, 1);
            }
            Check.due("chapter 2: in force with two drafts", x.ofWarning(sent, 7), 1);
            x.send(second);
            Check.dueThrows("15: another one was sent, " + kinds, x, Check.STATE, () -> x.send(first));
            Check.dueThrows("12: no update any more", x, Check.STATE, () -> x.update(sent, 1, 0, 1));
            Check.dueThrows("13: no cancel any more", x, Check.STATE, () -> x.cancel(sent));
            Check.due("20: the draft was not sent", x.ofWarning(first, 6), -1);
            Check.due("20: it is out of force", x.ofWarning(sent, 7), 0);
            Check.due("20: only an update is in force", x.ofWarning(second, 7), isSecondUpdate ? 1 : 0);
        }
    }

    private static void draftsOfTheSame() {
        WarnWave x = new WarnWave();
        int sent = Check.alertNow(x, 1, 0, 1);
        for (int w = 1; w < 12; w++) {
            Check.due("chapter 2: as many drafts as there is room for", follow(x, sent, w % 2 == 0), w);
            Check.due("20: all of the same", x.ofWarning(w, 1), sent);
        }
        x.approve(11, 0);
        x.approve(11, 1);
        Check.due("15: the last of them", x.send(11), 0);
        for (int w = 1; w < 11; w++) {
            int draft = w;
            x.approve(draft, 0);
            Check.due("14: a draft that came too late", x.approve(draft, 1), 0);
            Check.dueThrows("15: a draft that came too late", x, Check.STATE, () -> x.send(draft));
        }
    }

    private static void inForceOnlyWithoutFollower() {
        WarnWave x = new WarnWave();
        int draft = x.alert(1, 0, 1);
        Check.due("chapter 2: a draft is not in force", x.ofWarning(draft, 7), 0);
        Check.due("chapter 2: nor in its cell", x.inForce(0), -1);
        int sent = Check.alertNow(x, 1, 0, 1);
        int update = Check.updateNow(x, sent, 1, 0, 1);
        Check.due("chapter 2: the update alone", x.many(7), 1);
        int second = Check.updateNow(x, update, 1, 0, 1);
        Check.due("chapter 2: an update of an update", x.inForce(0), second);
        int cancel = Check.cancelNow(x, second);
        Check.due("chapter 2: no cancel is in force", x.ofWarning(cancel, 7), 0);
        Check.due("chapter 2: nothing comes back", x.many(7), 0);
        Check.due("chapter 2: not the alert", x.ofWarning(sent, 7), 0);
        Check.due("chapter 2: not the first update", x.ofWarning(update, 7), 0);
    }

    private static void cancelKeepsWords() {
        WarnWave x = new WarnWave();
        int sent = Check.alertNow(x, 1, 0, 1);
        int update = Check.updateNow(x, sent, 32768, 1, 6);
        int cancel = x.cancel(update);
        int[] want = {2, update, 32768, 1, 6};
        for (int what = 0; what < 5; what++) {
            Check.due("13: as the update, not as the alert, " + what, x.ofWarning(cancel, what), want[what]);
        }
    }

    private static void peopleInTheArea() {
        WarnWave x = new WarnWave();
        x.group(0, 10, 0, true, false);
        x.group(15, 20, 1, false, false);
        x.group(7, 40, 2, false, false);
        x.alert(32769, 0, 4);
        x.alert(2, 0, 7);
        x.alert(65535, 0, 1);
        for (int w = 0; w < 3; w++) {
            x.approve(w, 0);
            x.approve(w, 1);
        }
        Check.due("15: deaf, asleep and of any tongue", x.send(0), 30);
        Check.due("15: nobody is in its area", x.send(1), 0);
        x.danger(7, 0);
        x.pass(4);
        Check.due("15: with a harm of 4", x.send(2), 70);
        x.pass(1);
        x.approve(x.alert(65535, 0, 1), 0);
        x.approve(3, 1);
        Check.due("15: not who is gone", x.send(3), 30);
        WarnWave y = believer(5);
        y.shelter(0, 5);
        Check.alertNow(y, 1, 1, 1);
        y.pass(1);
        Check.due("it is safe", y.many(4), 5);
        y.approve(y.alert(1, 0, 1), 0);
        y.approve(2, 1);
        Check.due("15: who is safe", y.send(2), 5);
    }

    /** A group in cell 0 that believes alert 0 of cell 0, and then trusts as told. */
    private static WarnWave believer(int trust) {
        WarnWave x = new WarnWave();
        x.until(10);
        x.group(0, 5, 0, false, true);
        Check.alertNow(x, 1, 0, 1);
        x.pass(1);
        x.trust(0, trust);
        return x;
    }

    private static void trustOfEach() {
        for (int trust = 0; trust <= 9; trust++) {
            WarnWave right = believer(trust);
            right.danger(0, 0);
            Check.cancelNow(right, 0);
            Check.due("chapter 4: one more than " + trust, right.ofGroup(0, 3), Math.min(9, trust + 1));
            WarnWave wrong = believer(trust);
            Check.cancelNow(wrong, 0);
            Check.due("chapter 4: two less than " + trust, wrong.ofGroup(0, 3), Math.max(0, trust - 2));
            WarnWave draft = believer(trust);
            draft.cancel(0);
            Check.due("chapter 4: not by a draft", draft.ofGroup(0, 3), trust);
        }
    }

    private static void dangerByThen() {
        WarnWave early = believer(5);
        early.danger(0, 1);
        Check.cancelNow(early, 0);
        Check.due("chapter 4: in danger one minute too late", early.ofGroup(0, 3), 3);
        WarnWave then = believer(5);
        then.danger(0, 1);
        then.pass(1);
        Check.cancelNow(then, 0);
        Check.due("chapter 4: in danger by then", then.ofGroup(0, 3), 6);
        WarnWave over = believer(5);
        over.danger(0, 0);
        over.pass(1);
        over.danger(0, -1);
        Check.cancelNow(over, 0);
        Check.due("chapter 4: in danger no longer", over.ofGroup(0, 3), 3);
    }

    /** A group that went out of the area, to cell 1. */
    private static WarnWave leaver() {
        WarnWave x = new WarnWave();
        x.until(10);
        x.group(0, 5, 0, false, true);
        x.shelter(2, 1);
        x.shelter(3, 5);
        Check.alertNow(x, 1, 1, 1);
        x.pass(1);
        Check.due("it stands in cell 1", x.ofGroup(0, 0), 1);
        return x;
    }

    private static void ownCellInDanger() {
        WarnWave both = leaver();
        both.danger(0, 0);
        both.danger(1, 0);
        Check.cancelNow(both, 0);
        Check.due("chapter 4: the area in danger comes first", both.ofGroup(0, 3), 6);
        WarnWave area = leaver();
        area.danger(0, 0);
        Check.cancelNow(area, 0);
        Check.due("chapter 4: the area in danger, it stands elsewhere", area.ofGroup(0, 3), 6);
        WarnWave own = leaver();
        own.danger(1, 0);
        Check.cancelNow(own, 0);
        Check.due("chapter 4: its own cell alone", own.ofGroup(0, 3), 5);
        WarnWave soon = leaver();
        soon.danger(1, 1);
        Check.cancelNow(soon, 0);
        Check.due("chapter 4: its own cell, a minute too late", soon.ofGroup(0, 3), 3);
        WarnWave none = leaver();
        none.danger(2, 0);
        Check.cancelNow(none, 0);
        Check.due("chapter 4: a cell beside it", none.ofGroup(0, 3), 3);
    }

    private static void onlyTheOtherOneCounts() {
        WarnWave x = believer(5);
        int second = Check.alertNow(x, 2, 0, 1);
        Check.cancelNow(x, second);
        Check.due("chapter 4: it believed another one", x.ofGroup(0, 3), 5);
        int update = Check.updateNow(x, 0, 1, 0, 1);
        Check.due("chapter 4: an update changes no trust", x.ofGroup(0, 3), 5);
        x.pass(1);
        Check.cancelNow(x, update);
        Check.due("chapter 4: it believed the update", x.ofGroup(0, 3), 3);
    }

    private static void goneKeepTheirTrust() {
        WarnWave x = believer(5);
        x.group(1, 5, 1, false, false);
        x.danger(0, 0);
        x.pass(5);
        Check.due("it is gone", x.ofGroup(0, 7), 1);
        Check.cancelNow(x, 0);
        Check.due("chapter 4: who is gone has no more trust", x.ofGroup(0, 3), 5);
        Check.due("chapter 4: who did not believe has none, too", x.ofGroup(1, 3), 5);
        WarnWave y = believer(5);
        y.danger(0, 0);
        y.pass(5);
        y.danger(0, -1);
        Check.cancelNow(y, 0);
        Check.due("chapter 4: who is gone has no less trust", y.ofGroup(0, 3), 5);
    }

    private static void roomIsAsMuchMore() {
        WarnWave x = new WarnWave();
        x.until(10);
        x.group(0, 99, 0, false, true);
        x.group(0, 1, 1, false, true);
        x.shelter(0, 100);
        Check.alertNow(x, 1, 1, 3);
        x.pass(1);
        Check.due("22: full", x.roomIn(0), 0);
        Check.cancelNow(x, 0);
        Check.due("chapter 4: empty", x.roomIn(0), 100);
        Check.due("chapter 4: nobody is safe", x.many(4), 0);
        Check.alertNow(x, 1, 1, 1);
        x.pass(1);
        Check.due("chapter 4: and in again", x.roomIn(0), 1);
        x.danger(0, 0);
        x.pass(6);
        Check.due("chapter 4: who came out is harmed", x.ofGroup(1, 7), 1);
        Check.due("chapter 4: who is in is not", x.ofGroup(0, 6), 0);
    }

    private static void whoBelievesStillStays() {
        WarnWave x = new WarnWave();
        x.until(10);
        x.group(0, 5, 0, false, true);
        x.shelter(0, 5);
        int first = Check.alertNow(x, 1, 1, 1);
        int second = Check.alertNow(x, 1, 0, 1);
        x.pass(1);
        Check.due("chapter 3: the latest says stay", x.ofGroup(0, 5), -1);
        Check.cancelNow(x, second);
        x.pass(1);
        Check.due("chapter 3: the other says go", x.ofGroup(0, 5), 0);
        int third = Check.alertNow(x, 1, 0, 1);
        Check.cancelNow(x, first);
        Check.due("chapter 4: what it has not yet believed holds nobody", x.ofGroup(0, 5), -1);
        x.pass(1);
        Check.due("chapter 3: with STAY it stays out", x.ofGroup(0, 5), -1);
        Check.cancelNow(x, third);
        Check.due("22: all room is left", x.roomIn(0), 5);
    }
}
