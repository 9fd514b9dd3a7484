import java.util.ArrayList;
import java.util.List;

/**
 * Runs of any calls, with arguments in and out of range. The numbers come from a written-down row, so that each run
 * is the same each time. Of each call: only an exception that its face names, of exactly that class, and then
 * nothing is changed; a question changes nothing; safeIn and sirenWould say what a twin then shows.
 */
final class RandomRunsTest {
    private static final int RUNS = 400;
    private static final int CALLS = 120;
    private static final int[] ODD = {Integer.MIN_VALUE, Integer.MAX_VALUE, -2, -1, 16, 61, 100, 201, 1000, 65536};

    private static final int GROUP = 0;
    private static final int TRUST = 1;
    private static final int SHELTER = 2;
    private static final int SIREN = 3;
    private static final int MAST = 4;
    private static final int POWER = 5;
    private static final int LINES = 6;
    private static final int DANGER = 7;
    private static final int KEY = 8;
    private static final int ALERT = 9;
    private static final int UPDATE = 10;
    private static final int CANCEL = 11;
    private static final int APPROVE = 12;
    private static final int SEND = 13;
    private static final int PASS = 14;
    private static final int UNTIL = 15;
    private static final int FIRST_QUESTION = 16;
    private static final int KINDS = 26;

    /** Which exceptions the face names: 1 index, 2 argument, 4 state. */
    private static final int[] THROWN = {
        7, 3, 7, 7, 7, 1, 2, 3, 1, 6, 7, 5, 5, 5, 6, 6, 3, 3, 3, 1, 1, 1, 2, 1, 3, 3,
    };

    private static final int[][] RANGES = {
        {16, 40, 3, 2, 2}, {8, 10}, {16, 120}, {16, 4}, {16, 4}, {16, 2}, {4}, {16, 12}, {4, 2},
        {65536, 2, 8}, {12, 65536, 2, 8}, {12}, {12, 4}, {12}, {9}, {24},
        {8, 9}, {8, 12, 5}, {12, 9}, {16}, {3}, {8, 12}, {12}, {12}, {8, 61}, {16, 4, 30},
    };

    private long seed;

    private RandomRunsTest(long seed) {
        this.seed = seed * 7919 + 17;
    }

    public static void main(String[] args) {
        for (int run = 0; run < RUNS; run++) {
            new RandomRunsTest(run).run("run " + run);
        }
        Check.end("RandomRunsTest");
    }

    private int next(int bound) {
        seed = seed * 6364136223846793005L + 1442695040888963407L;
        return (int) Math.floorMod(seed >> 33, (long) bound);
    }

    private int[] nextCall() {
        int kind = next(3) == 0 ? next(KINDS) : usefulKind();
        int[] ranges = RANGES[kind];
        int[] call = new int[ranges.length + 1];
        call[0] = kind;
        for (int k = 0; k < ranges.length; k++) {
            call[k + 1] = next(40) == 0 ? ODD[next(ODD.length)] : next(ranges[k]);
        }
        boolean isLow = kind == UPDATE || kind == CANCEL || kind == APPROVE || kind == SEND;
        if (isLow && next(2) == 0) {
            call[1] = next(4);
        }
        if (kind == ALERT && next(2) == 0) {
            call[1] = 65535;
            call[3] = 7;
        }
        return call;
    }

    private int usefulKind() {
        int[] useful = {GROUP, SHELTER, SIREN, MAST, DANGER, TRUST, ALERT, UPDATE, CANCEL, APPROVE, APPROVE, APPROVE,
            APPROVE, SEND, SEND, SEND, PASS, PASS, PASS, LINES};
        return useful[next(useful.length)];
    }

    private void run(String name) {
        WarnWave x = new WarnWave();
        List<int[]> done = new ArrayList<>();
        if (next(3) > 0) {
            play(x, new int[] {UNTIL, 4 + next(20)}, done);
        }
        long before = x.digest();
        for (int k = 0; k < CALLS; k++) {
            int[] call = nextCall();
            int thrown = play(x, call, done);
            long after = x.digest();
            Check.due(name + ", call " + k + ": only what the face names", thrown & ~THROWN[call[0]], 0);
            if (thrown != 0 || call[0] >= FIRST_QUESTION) {
                Check.due(name + ", call " + k + " changes nothing", after, before);
            }
            before = after;
        }
        Check.due(name + ": digest by the other calls", before, DigestByCalls.of(x));
        twins(name, x, done);
    }

    /** Answers 0, or the bit of the exception; 8 for any other. What was done is noted for twins. */
    private static int play(WarnWave x, int[] call, List<int[]> done) {
        try {
            if (call[0] < PASS) {
                tell(x, call);
            } else {
                ask(x, call);
            }
        } catch (RuntimeException e) {
            Class<?> kind = e.getClass();
            return kind == Check.INDEX ? 1 : kind == Check.ARGUMENT ? 2 : kind == Check.STATE ? 4 : 8;
        }
        if (call[0] < FIRST_QUESTION) {
            done.add(call);
        }
        return 0;
    }

    private static void tell(WarnWave x, int[] c) {
        switch (c[0]) {
            case GROUP: x.group(c[1], c[2], c[3], c[4] == 1, c[5] == 1); break;
            case TRUST: x.trust(c[1], c[2]); break;
            case SHELTER: x.shelter(c[1], c[2]); break;
            case SIREN: x.siren(c[1], c[2]); break;
            case MAST: x.mast(c[1], c[2]); break;
            case POWER: x.power(c[1], c[2] == 1); break;
            case LINES: x.lines(c[1]); break;
            case DANGER: x.danger(c[1], c[2]); break;
            case KEY: x.key(c[1], c[2] == 1); break;
            case ALERT: x.alert(c[1], c[2], c[3]); break;
            case UPDATE: x.update(c[1], c[2], c[3], c[4]); break;
            case CANCEL: x.cancel(c[1]); break;
            case APPROVE: x.approve(c[1], c[2]); break;
            default: x.send(c[1]); break;
        }
    }

    private static void ask(WarnWave x, int[] c) {
        switch (c[0]) {
            case PASS: x.pass(c[1]); break;
            case UNTIL: x.until(c[1]); break;
            case 16: x.ofGroup(c[1], c[2]); break;
            case 17: x.heard(c[1], c[2], c[3]); break;
            case 18: x.ofWarning(c[1], c[2]); break;
            case 19: x.inForce(c[1]); break;
            case 20: x.roomIn(c[1]); break;
            case 21: x.chain(c[1], c[2]); break;
            case 22: x.many(c[1]); break;
            case 23: x.meanDelay(c[1]); break;
            case 24: x.safeIn(c[1], c[2]); break;
            default: x.sirenWould(c[1], c[2], c[3]); break;
        }
    }

    private static WarnWave twin(List<int[]> done) {
        WarnWave x = new WarnWave();
        List<int[]> again = new ArrayList<>();
        for (int[] call : done) {
            play(x, call, again);
        }
        return x;
    }

    private void twins(String name, WarnWave x, List<int[]> done) {
        WarnWave twin = twin(done);
        Check.due(name + ": the same calls answer the same", twin.digest(), x.digest());
        int minutes = 1 + next(15);
        if (x.many(0) + minutes > 9999) {
            return;
        }
        int cell = next(16);
        int reach = next(4);
        int would = x.sirenWould(cell, reach, minutes);
        for (int g = 0; g < x.many(2); g++) {
            WarnWave walker = twin(done);
            Check.due(name + ": safeIn of " + g, x.safeIn(g, minutes), minutesUntilSafe(walker, g, minutes));
        }
        twin.pass(minutes);
        WarnWave louder = twin(done);
        if (canAddSiren(louder, cell, reach)) {
            louder.pass(minutes);
            Check.due(name + ": sirenWould", would, believing(louder) - believing(twin));
        }
    }

    private static int minutesUntilSafe(WarnWave walker, int group, int minutes) {
        for (int minute = 0; minute <= minutes; minute++) {
            if (walker.ofGroup(group, 5) != -1) {
                return minute;
            }
            if (minute < minutes) {
                walker.pass(1);
            }
        }
        return -1;
    }

    private static boolean canAddSiren(WarnWave x, int cell, int reach) {
        try {
            x.siren(cell, reach);
            return true;
        } catch (IllegalStateException e) {
            return false;
        }
    }

    private static int believing(WarnWave x) {
        int people = 0;
        for (int g = 0; g < x.many(2); g++) {
            people += x.ofGroup(g, 8) == -1 ? 0 : x.ofGroup(g, 1);
        }
        return people;
    }
}
